/-! ===== the reference's coder: its parts ===== -/
def r_put (v : Int32) (u : RS) : RS := rs_cs (rs_cd u (upd (r_cd u) (r_cs u) v)) (r_cs u + 1)
def r_mid (u : RS) : Int64 := r_lw u + (r_hg u - r_lw u) / 4096 * (r_mx u).toInt64
def r_prt (z : Int32) (u : RS) : RS := if z = 0 then rs_lw u (r_mid u + 1) else rs_hg u (r_mid u)
def r_sam (u : RS) : Int32 := if lg_cmp (r_lw u >>> ((24 : Int32).toInt64 &&& 63)) (r_hg u >>> ((24 : Int32).toInt64 &&& 63)) = 0 then 1 else 0
def r_shf (u : RS) : RS := rs_hg (rs_lw u (sh8 (r_lw u))) (sh8 (r_hg u) ||| 255)
def r_boc (u : RS) (j : Nat) : Int32 := if j < r_cs u then r_cd u j else 0
def fbR (x : Int64) (k : Nat) : Int32 := ((x >>> ((nI (8 * k)).toInt64 &&& 63)) &&& 255).toInt32
def r_fd (x : Int64) : Nat → RS → RS
  | 0, u => u
  | k + 1, u => r_fd x k (rs_sz (rs_tx u (upd (r_tx u) (r_sz u) (fbR x k))) (r_sz u + 1))
def r_fl (v : Int32) (n : Nat) (f : Nat → Int32) : Nat → Nat → Int32
  | 0 => f
  | k + 1 => upd (r_fl v n f k) (n + k) v

set_option maxHeartbeats 4000000 in
set_option maxRecDepth 100000 in
theorem c_X5_put (l : Launch) (D : va_G) (cI cL cM : ClassId) (A : Nat → Prop) (b : Nat → Nat) (u : RS) (v : Int32) (hb9 : r_cs u < 3000) : mV l yX5_put wsX5_put ({ frames := 0, cells := 0, slots := 0, locals := 0 }) D (tB cI cL cM) A [.ref (b 0), .int v] (rfW cI b u) (rfW cI b (r_put v u)) := by
  refine Met.ofW (cc := cX5_put) (maxL := 2) (ret := none) (by decide) rfl ?_
  intro p e s m args below meth c s₁ B hml hv
  obtain ⟨rfl, hP, hE, hD, hA⟩ := hv
  have hK := hE.1
  have hx := B.exec
  have hb := B.bytes
  have hr := B.returns
  have hts := atoms_spec (ws := wsX5_put) B.pre
  have hown : s.vm.findClass RX5 = some m.cls := findClass_of_methodNamed B.named
  have hlocks := B.notSynchronized
  have hS : va_S A s.heap s.heap [] := va_S.rf
  have hl := lv_entry ([.ref (b 0), .int v]) (n := 2) (Nat.le_of_ble_eq_true rfl)
  rw [lg_entry_eq]
  generalize (lg_sl ([.ref (b 0), .int v]) ++ List.replicate (2 - (lg_sl ([.ref (b 0), .int v])).length) Slot.unset).toArray = ls at hl ⊢
  have hl : lv_has ls 2 [(0, .ref (b 0)), (1, .int v)] := hl
  refine lv_aload_n hx hb dX5_put_0 rfl (lv_at hl 0 rfl) ?_
  refine va_get (D := D) (ci := 5) (v := .ref (b 11)) (C := RX5) (T := TX5) (N := 22) hx hb hts (fun _ h => List.mem_cons_of_mem _ (List.mem_append_right _ h)) hown hK hP 0 rfl rfl 17 (by decide) (hts _ (List.mem_of_getElem? (i := 1) rfl)) (fun _ h9 => h9) rfl dX5_put_1 ?_
  refine lv_aload_n hx hb dX5_put_4 rfl (lv_at hl 0 rfl) ?_
  refine va_get (D := D) (ci := 5) (v := .int (nI (r_cs u))) (C := RX5) (T := TX5) (N := 22) hx hb hts (fun _ h => List.mem_cons_of_mem _ (List.mem_append_right _ h)) hown hK hP 0 rfl rfl 16 (by decide) (hts _ (List.mem_of_getElem? (i := 2) rfl)) (fun _ h9 => h9) rfl dX5_put_5 ?_
  refine lv_iload_n hx hb dX5_put_8 rfl (lv_at hl 1 rfl) ?_
  refine istN hx hb hK hP hD hS 11 0 rfl rfl (r_cs u) (hb9) ((Nat.le_of_ble_eq_true rfl)) dX5_put_9 (fun H locs hP hD hS => ?_)
  rw [rfW_cd] at hP hD
  have hP : va_P D vwCl (rfW cI b (rs_cd u (upd (r_cd u) (r_cs u) v))) H := hP
  have hD : va_D A (rfW cI b (rs_cd u (upd (r_cd u) (r_cs u) v))) := hD
  refine lv_aload_n hx hb dX5_put_10 rfl (lv_at hl 0 rfl) ?_
  refine lv_dup hx hb dX5_put_11 rfl ?_
  refine va_get (D := D) (ci := 5) (v := .int (nI (r_cs u))) (C := RX5) (T := TX5) (N := 22) hx hb hts (fun _ h => List.mem_cons_of_mem _ (List.mem_append_right _ h)) hown hK hP 0 rfl rfl 16 (by decide) (hts _ (List.mem_of_getElem? (i := 2) rfl)) (fun _ h9 => h9) rfl dX5_put_12 ?_
  refine lv_iconst (v := 1) hx hb dX5_put_15 (by decide) ?_
  refine lv_iadd hx hb dX5_put_16 ?_
  refine topI (y := nI ((r_cs u) + 1)) (nI_1 _) ?_
  refine va_put (D := D) (ci := 5) (v := .int (nI ((r_cs u) + 1))) (ty := .int) (C := RX5) (T := TX5) (N := 22) hx hb hts (fun _ h => List.mem_cons_of_mem _ (List.mem_append_right _ h)) tyX5 tyX5_ok nmX5 hown hK hP hD hS 0 rfl rfl 16 (by decide) (hts _ (List.mem_of_getElem? (i := 2) rfl)) (fun _ h9 => h9) rfl (by decide +kernel) rfl rfl (Nat.le_of_ble_eq_true rfl) dX5_put_17 (fun H locs hP hD hS => ?_)
  rw [rfW_cs] at hP hD
  have hP : va_P D vwCl (rfW cI b (rs_cs (rs_cd u (upd (r_cd u) (r_cs u) v)) ((r_cs u) + 1))) H := hP
  have hD : va_D A (rfW cI b (rs_cs (rs_cd u (upd (r_cd u) (r_cs u) v)) ((r_cs u) + 1))) := hD
  have hw9 : (rfW cI b (rs_cs (rs_cd u (upd (r_cd u) (r_cs u) v)) ((r_cs u) + 1))) = (rfW cI b (r_put v u)) := by rfl
  rw [hw9] at hP hD
  exact W.vret hx hb hr (fun t ht hW => ⟨⟨(), rfl, trivial, by rw [ht]; exact hP, hD⟩, hS.F ht⟩) hS.2.2 dX5_put_20

set_option maxHeartbeats 4000000 in
set_option maxRecDepth 100000 in
theorem c_X5_middle (l : Launch) (D : va_G) (cI cL cM : ClassId) (A : Nat → Prop) (b : Nat → Nat) (u : RS) (hs : RSf u) (hT : RT u) : mL l yX5_middle wsX5_middle ({ frames := 4, cells := 0, slots := 0, locals := 91 }) D (tB cI cL cM) A [.ref (b 0)] (rfW cI b u) (r_mid u) (rfW cI b u) := by
  refine Met.ofW (cc := cX5_middle) (maxL := 1) (ret := (some .long)) (by decide) rfl ?_
  intro p e s m args below meth c s₁ B hml hv
  obtain ⟨rfl, hP, hE, hD, hA⟩ := hv
  have hK := hE.1
  have hx := B.exec
  have hb := B.bytes
  have hr := B.returns
  have hts := atoms_spec (ws := wsX5_middle) B.pre
  have hown : s.vm.findClass RX5 = some m.cls := findClass_of_methodNamed B.named
  have hlocks := B.notSynchronized
  have hS : va_S A s.heap s.heap [] := va_S.rf
  have hl := lv_entry ([.ref (b 0)]) (n := 1) (Nat.le_of_ble_eq_true rfl)
  rw [lg_entry_eq]
  generalize (lg_sl ([.ref (b 0)]) ++ List.replicate (1 - (lg_sl ([.ref (b 0)])).length) Slot.unset).toArray = ls at hl ⊢
  have hl : lv_has ls 1 [(0, .ref (b 0))] := hl
  refine lv_aload_n hx hb dX5_middle_0 rfl (lv_at hl 0 rfl) ?_
  refine va_get (D := D) (ci := 5) (v := .long (r_lw u)) (C := RX5) (T := TX5) (N := 22) hx hb hts (fun _ h => List.mem_cons_of_mem _ (List.mem_append_right _ h)) hown hK hP 0 rfl rfl 20 (by decide) (hts _ (List.mem_of_getElem? (i := 1) rfl)) (fun _ h9 => h9) rfl dX5_middle_1 ?_
  refine lv_aload_n hx hb dX5_middle_4 rfl (lv_at hl 0 rfl) ?_
  refine va_get (D := D) (ci := 5) (v := .long (r_hg u)) (C := RX5) (T := TX5) (N := 22) hx hb hts (fun _ h => List.mem_cons_of_mem _ (List.mem_append_right _ h)) hown hK hP 0 rfl rfl 21 (by decide) (hts _ (List.mem_of_getElem? (i := 2) rfl)) (fun _ h9 => h9) rfl dX5_middle_5 ?_
  refine lv_aload_n hx hb dX5_middle_8 rfl (lv_at hl 0 rfl) ?_
  refine va_get (D := D) (ci := 5) (v := .long (r_lw u)) (C := RX5) (T := TX5) (N := 22) hx hb hts (fun _ h => List.mem_cons_of_mem _ (List.mem_append_right _ h)) hown hK hP 0 rfl rfl 20 (by decide) (hts _ (List.mem_of_getElem? (i := 1) rfl)) (fun _ h9 => h9) rfl dX5_middle_9 ?_
  refine lv_lsub hx hb dX5_middle_12 ?_
  refine lv_ldc2 hx hb hown (hts _ (List.mem_of_getElem? (i := 3) rfl)) dX5_middle_13 ?_
  refine lv_ldiv hx hb dX5_middle_16 (by decide) ?_
  refine lv_aload_n hx hb dX5_middle_17 rfl (lv_at hl 0 rfl) ?_
  refine kIa (rVa (As := []) (rest := [.long (((r_hg u) - (r_lw u)) / 4096), .long (r_lw u)]) ⟨hx, hb, hml, hown, hts⟩ (c_X5_mix l D cI cL cM _ b u  hs hT) (cwV 0 hts gX5_middle_X5_mix rfl rfl rfl (by decide +kernel) ⟨(Nat.le_of_ble_eq_true rfl), (Nat.le_of_ble_eq_true rfl)⟩) hE hP hD hS hA 0 rfl rfl rfl hl.1 rfl (Nat.le_of_ble_eq_true rfl) dX5_middle_18 ⟨(Nat.le_of_ble_eq_true rfl), (Nat.le_of_ble_eq_true rfl)⟩) hS (fun H locs hP hD hS => ?_)
  have hP : va_P D vwCl (rfW cI b u) H := hP
  have hD : va_D A (rfW cI b u) := hD
  refine lv_i2l hx hb dX5_middle_21 rfl ?_
  refine lv_lmul hx hb dX5_middle_22 ?_
  refine lv_ladd hx hb dX5_middle_23 ?_
  exact W.lret (v := (r_lw u) + ((((r_hg u) - (r_lw u)) / 4096) * ((r_mx u).toInt64))) hx hb hr (fun t ht hW => ⟨⟨((r_lw u) + ((((r_hg u) - (r_lw u)) / 4096) * ((r_mx u).toInt64))), (), rfl, by rfl, by rw [ht]; exact hP, hD⟩, hS.F ht⟩) hS.2.2 dX5_middle_24

set_option maxHeartbeats 4000000 in
set_option maxRecDepth 100000 in
theorem c_X5_part (l : Launch) (D : va_G) (cI cL cM : ClassId) (A : Nat → Prop) (b : Nat → Nat) (u : RS) (z : Int32) (hs : RSf u) (hT : RT u) : mV l yX5_part wsX5_part ({ frames := 5, cells := 0, slots := 0, locals := 111 }) D (tB cI cL cM) A [.ref (b 0), .int z] (rfW cI b u) (rfW cI b (r_prt z u)) := by
  refine Met.ofW (cc := cX5_part) (maxL := 4) (ret := none) (by decide) rfl ?_
  intro p e s m args below meth c s₁ B hml hv
  obtain ⟨rfl, hP, hE, hD, hA⟩ := hv
  have hK := hE.1
  have hx := B.exec
  have hb := B.bytes
  have hr := B.returns
  have hts := atoms_spec (ws := wsX5_part) B.pre
  have hown : s.vm.findClass RX5 = some m.cls := findClass_of_methodNamed B.named
  have hlocks := B.notSynchronized
  have hS : va_S A s.heap s.heap [] := va_S.rf
  have hl := lv_entry ([.ref (b 0), .int z]) (n := 4) (Nat.le_of_ble_eq_true rfl)
  rw [lg_entry_eq]
  generalize (lg_sl ([.ref (b 0), .int z]) ++ List.replicate (4 - (lg_sl ([.ref (b 0), .int z])).length) Slot.unset).toArray = ls at hl ⊢
  have hl : lv_has ls 4 [(0, .ref (b 0)), (1, .int z)] := hl
  refine lv_aload_n hx hb dX5_part_0 rfl (lv_at hl 0 rfl) ?_
  refine kLa (rVa (As := []) (rest := []) ⟨hx, hb, hml, hown, hts⟩ (c_X5_middle l D cI cL cM _ b u  hs hT) (cwV 0 hts gX5_part_X5_middle rfl rfl rfl (by decide +kernel) ⟨(Nat.le_of_ble_eq_true rfl), (Nat.le_of_ble_eq_true rfl)⟩) hE hP hD hS hA 0 rfl rfl rfl hl.1 rfl (Nat.le_of_ble_eq_true rfl) dX5_part_1 ⟨(Nat.le_of_ble_eq_true rfl), (Nat.le_of_ble_eq_true rfl)⟩) hS (fun H locs hP hD hS => ?_)
  have hP : va_P D vwCl (rfW cI b u) H := hP
  have hD : va_D A (rfW cI b u) := hD
  refine lv_topl (fun m2 hm2 => ?_)
  refine lv_lstore_n (lv' := [(2, .long m2), (0, .ref (b 0)), (1, .int z)]) hx hb dX5_part_4 rfl hl (by decide) rfl (fun ls hl => ?_)
  refine lv_iload_n hx hb dX5_part_5 rfl (lv_at hl 2 rfl) ?_
  refine lv_if_eq (tgt := 17) hx hb dX5_part_6 (by decide) (fun cz => ?_) (fun cz => ?_)
  · replace cz : z = (0 : Int32) := cz
    refine lv_aload_n hx hb dX5_part_17 rfl (lv_at hl 1 rfl) ?_
    refine lv_lload_n hx hb dX5_part_18 rfl (lv_at hl 0 rfl) ?_
    refine lv_lconst (v := 1) hx hb dX5_part_19 (by decide) ?_
    refine lv_ladd hx hb dX5_part_20 ?_
    refine va_put (D := D) (ci := 5) (v := .long (m2 + 1)) (ty := .long) (C := RX5) (T := TX5) (N := 22) hx hb hts (fun _ h => List.mem_cons_of_mem _ (List.mem_append_right _ h)) tyX5 tyX5_ok nmX5 hown hK hP hD hS 0 rfl rfl 20 (by decide) (hts _ (List.mem_of_getElem? (i := 2) rfl)) (fun _ h9 => h9) rfl (by decide +kernel) rfl rfl (Nat.le_of_ble_eq_true rfl) dX5_part_21 (fun H locs hP hD hS => ?_)
    rw [rfW_lw] at hP hD
    have hP : va_P D vwCl (rfW cI b (rs_lw u (m2 + 1))) H := hP
    have hD : va_D A (rfW cI b (rs_lw u (m2 + 1))) := hD
    subst hm2
    have hw9 : (rfW cI b (rs_lw u ((r_mid u) + 1))) = (rfW cI b (r_prt z u)) := by unfold r_prt; first | (rw [if_pos cz]; try rfl) | (rw [if_neg cz]; try rfl)
    rw [hw9] at hP hD
    exact W.vret hx hb hr (fun t ht hW => ⟨⟨(), rfl, trivial, by rw [ht]; exact hP, hD⟩, hS.F ht⟩) hS.2.2 dX5_part_24
  · replace cz : ¬ z = (0 : Int32) := cz
    refine lv_aload_n hx hb dX5_part_9 rfl (lv_at hl 1 rfl) ?_
    refine lv_lload_n hx hb dX5_part_10 rfl (lv_at hl 0 rfl) ?_
    refine va_put (D := D) (ci := 5) (v := .long m2) (ty := .long) (C := RX5) (T := TX5) (N := 22) hx hb hts (fun _ h => List.mem_cons_of_mem _ (List.mem_append_right _ h)) tyX5 tyX5_ok nmX5 hown hK hP hD hS 0 rfl rfl 21 (by decide) (hts _ (List.mem_of_getElem? (i := 1) rfl)) (fun _ h9 => h9) rfl (by decide +kernel) rfl rfl (Nat.le_of_ble_eq_true rfl) dX5_part_11 (fun H locs hP hD hS => ?_)
    rw [rfW_hg] at hP hD
    have hP : va_P D vwCl (rfW cI b (rs_hg u m2)) H := hP
    have hD : va_D A (rfW cI b (rs_hg u m2)) := hD
    refine lv_goto (tgt := 24) hx hb dX5_part_14 (by decide) ?_
    subst hm2
    have hw9 : (rfW cI b (rs_hg u (r_mid u))) = (rfW cI b (r_prt z u)) := by unfold r_prt; first | (rw [if_pos cz]; try rfl) | (rw [if_neg cz]; try rfl)
    rw [hw9] at hP hD
    exact W.vret hx hb hr (fun t ht hW => ⟨⟨(), rfl, trivial, by rw [ht]; exact hP, hD⟩, hS.F ht⟩) hS.2.2 dX5_part_24

set_option maxHeartbeats 4000000 in
set_option maxRecDepth 100000 in
theorem c_X5_areSame (l : Launch) (D : va_G) (cI cL cM : ClassId) (A : Nat → Prop) (b : Nat → Nat) (u : RS)  : mI l yX5_areSame wsX5_areSame ({ frames := 0, cells := 0, slots := 0, locals := 0 }) D (tB cI cL cM) A [.ref (b 0)] (rfW cI b u) (r_sam u) (rfW cI b u) := by
  refine Met.ofW (cc := cX5_areSame) (maxL := 1) (ret := (some .boolean)) (by decide) rfl ?_
  intro p e s m args below meth c s₁ B hml hv
  obtain ⟨rfl, hP, hE, hD, hA⟩ := hv
  have hK := hE.1
  have hx := B.exec
  have hb := B.bytes
  have hr := B.returns
  have hts := atoms_spec (ws := wsX5_areSame) B.pre
  have hown : s.vm.findClass RX5 = some m.cls := findClass_of_methodNamed B.named
  have hlocks := B.notSynchronized
  have hS : va_S A s.heap s.heap [] := va_S.rf
  have hl := lv_entry ([.ref (b 0)]) (n := 1) (Nat.le_of_ble_eq_true rfl)
  rw [lg_entry_eq]
  generalize (lg_sl ([.ref (b 0)]) ++ List.replicate (1 - (lg_sl ([.ref (b 0)])).length) Slot.unset).toArray = ls at hl ⊢
  have hl : lv_has ls 1 [(0, .ref (b 0))] := hl
  refine lv_aload_n hx hb dX5_areSame_0 rfl (lv_at hl 0 rfl) ?_
  refine va_get (D := D) (ci := 5) (v := .long (r_lw u)) (C := RX5) (T := TX5) (N := 22) hx hb hts (fun _ h => List.mem_cons_of_mem _ (List.mem_append_right _ h)) hown hK hP 0 rfl rfl 20 (by decide) (hts _ (List.mem_of_getElem? (i := 1) rfl)) (fun _ h9 => h9) rfl dX5_areSame_1 ?_
  refine lv_bipush (v := 24) hx hb dX5_areSame_4 (by decide) ?_
  refine lv_lshr hx hb dX5_areSame_6 rfl ?_
  refine lv_aload_n hx hb dX5_areSame_7 rfl (lv_at hl 0 rfl) ?_
  refine va_get (D := D) (ci := 5) (v := .long (r_hg u)) (C := RX5) (T := TX5) (N := 22) hx hb hts (fun _ h => List.mem_cons_of_mem _ (List.mem_append_right _ h)) hown hK hP 0 rfl rfl 21 (by decide) (hts _ (List.mem_of_getElem? (i := 2) rfl)) (fun _ h9 => h9) rfl dX5_areSame_8 ?_
  refine lv_bipush (v := 24) hx hb dX5_areSame_11 (by decide) ?_
  refine lv_lshr hx hb dX5_areSame_13 rfl ?_
  refine W.lcmp hx hb dX5_areSame_14 ?_
  refine lv_if_ne (tgt := 22) hx hb dX5_areSame_15 (by decide) (fun c_1 => ?_) (fun c_1 => ?_)
  · replace c_1 : ¬ (lg_cmp ((r_lw u) >>> ((24 : Int32).toInt64 &&& 63)) ((r_hg u) >>> ((24 : Int32).toInt64 &&& 63))) = (0 : Int32) := c_1
    refine lv_iconst (v := 0) hx hb dX5_areSame_22 (by decide) ?_
    exact W.zret (v := 0) hx hb hr rfl (fun t ht hW => ⟨⟨0, (), rfl, by (try unfold r_sam); (try rw [if_neg c_1]); try rfl, by rw [ht]; exact hP, hD⟩, hS.F ht⟩) hS.2.2 dX5_areSame_23
  · replace c_1 : (lg_cmp ((r_lw u) >>> ((24 : Int32).toInt64 &&& 63)) ((r_hg u) >>> ((24 : Int32).toInt64 &&& 63))) = (0 : Int32) := c_1
    refine lv_iconst (v := 1) hx hb dX5_areSame_18 (by decide) ?_
    refine lv_goto (tgt := 23) hx hb dX5_areSame_19 (by decide) ?_
    exact W.zret (v := 1) hx hb hr rfl (fun t ht hW => ⟨⟨1, (), rfl, by (try unfold r_sam); (try rw [if_pos c_1]); try rfl, by rw [ht]; exact hP, hD⟩, hS.F ht⟩) hS.2.2 dX5_areSame_23

set_option maxHeartbeats 4000000 in
set_option maxRecDepth 100000 in
theorem c_X5_shift (l : Launch) (D : va_G) (cI cL cM : ClassId) (A : Nat → Prop) (b : Nat → Nat) (u : RS)  : mV l yX5_shift wsX5_shift ({ frames := 0, cells := 0, slots := 0, locals := 0 }) D (tB cI cL cM) A [.ref (b 0)] (rfW cI b u) (rfW cI b (r_shf u)) := by
  refine Met.ofW (cc := cX5_shift) (maxL := 1) (ret := none) (by decide) rfl ?_
  intro p e s m args below meth c s₁ B hml hv
  obtain ⟨rfl, hP, hE, hD, hA⟩ := hv
  have hK := hE.1
  have hx := B.exec
  have hb := B.bytes
  have hr := B.returns
  have hts := atoms_spec (ws := wsX5_shift) B.pre
  have hown : s.vm.findClass RX5 = some m.cls := findClass_of_methodNamed B.named
  have hlocks := B.notSynchronized
  have hS : va_S A s.heap s.heap [] := va_S.rf
  have hl := lv_entry ([.ref (b 0)]) (n := 1) (Nat.le_of_ble_eq_true rfl)
  rw [lg_entry_eq]
  generalize (lg_sl ([.ref (b 0)]) ++ List.replicate (1 - (lg_sl ([.ref (b 0)])).length) Slot.unset).toArray = ls at hl ⊢
  have hl : lv_has ls 1 [(0, .ref (b 0))] := hl
  refine lv_aload_n hx hb dX5_shift_0 rfl (lv_at hl 0 rfl) ?_
  refine lv_aload_n hx hb dX5_shift_1 rfl (lv_at hl 0 rfl) ?_
  refine va_get (D := D) (ci := 5) (v := .long (r_lw u)) (C := RX5) (T := TX5) (N := 22) hx hb hts (fun _ h => List.mem_cons_of_mem _ (List.mem_append_right _ h)) hown hK hP 0 rfl rfl 20 (by decide) (hts _ (List.mem_of_getElem? (i := 1) rfl)) (fun _ h9 => h9) rfl dX5_shift_2 ?_
  refine lv_bipush (v := 8) hx hb dX5_shift_5 (by decide) ?_
  refine lv_lshl hx hb dX5_shift_7 rfl ?_
  refine lv_ldc2 hx hb hown (hts _ (List.mem_of_getElem? (i := 2) rfl)) dX5_shift_8 ?_
  refine lv_land hx hb dX5_shift_11 ?_
  refine lv_topl (fun a1 ha1 => ?_)
  refine va_put (D := D) (ci := 5) (v := .long a1) (ty := .long) (C := RX5) (T := TX5) (N := 22) hx hb hts (fun _ h => List.mem_cons_of_mem _ (List.mem_append_right _ h)) tyX5 tyX5_ok nmX5 hown hK hP hD hS 0 rfl rfl 20 (by decide) (hts _ (List.mem_of_getElem? (i := 1) rfl)) (fun _ h9 => h9) rfl (by decide +kernel) rfl rfl (Nat.le_of_ble_eq_true rfl) dX5_shift_12 (fun H locs hP hD hS => ?_)
  rw [rfW_lw] at hP hD
  have hP : va_P D vwCl (rfW cI b (rs_lw u a1)) H := hP
  have hD : va_D A (rfW cI b (rs_lw u a1)) := hD
  refine lv_aload_n hx hb dX5_shift_15 rfl (lv_at hl 0 rfl) ?_
  refine lv_aload_n hx hb dX5_shift_16 rfl (lv_at hl 0 rfl) ?_
  refine va_get (D := D) (ci := 5) (v := .long (r_hg u)) (C := RX5) (T := TX5) (N := 22) hx hb hts (fun _ h => List.mem_cons_of_mem _ (List.mem_append_right _ h)) hown hK hP 0 rfl rfl 21 (by decide) (hts _ (List.mem_of_getElem? (i := 3) rfl)) (fun _ h9 => h9) rfl dX5_shift_17 ?_
  refine lv_bipush (v := 8) hx hb dX5_shift_20 (by decide) ?_
  refine lv_lshl hx hb dX5_shift_22 rfl ?_
  refine lv_ldc2 hx hb hown (hts _ (List.mem_of_getElem? (i := 2) rfl)) dX5_shift_23 ?_
  refine lv_land hx hb dX5_shift_26 ?_
  refine lv_topl (fun a2 ha2 => ?_)
  refine lv_ldc2 hx hb hown (hts _ (List.mem_of_getElem? (i := 4) rfl)) dX5_shift_27 ?_
  refine lv_lor hx hb dX5_shift_30 ?_
  refine lv_topl (fun a3 ha3 => ?_)
  refine va_put (D := D) (ci := 5) (v := .long a3) (ty := .long) (C := RX5) (T := TX5) (N := 22) hx hb hts (fun _ h => List.mem_cons_of_mem _ (List.mem_append_right _ h)) tyX5 tyX5_ok nmX5 hown hK hP hD hS 0 rfl rfl 21 (by decide) (hts _ (List.mem_of_getElem? (i := 3) rfl)) (fun _ h9 => h9) rfl (by decide +kernel) rfl rfl (Nat.le_of_ble_eq_true rfl) dX5_shift_31 (fun H locs hP hD hS => ?_)
  rw [rfW_hg] at hP hD
  have hP : va_P D vwCl (rfW cI b (rs_hg (rs_lw u a1) a3)) H := hP
  have hD : va_D A (rfW cI b (rs_hg (rs_lw u a1) a3)) := hD
  subst ha3
  subst ha2
  subst ha1
  have hw9 : (rfW cI b (rs_hg (rs_lw u (((r_lw u) <<< ((8 : Int32).toInt64 &&& 63)) &&& 4294967295)) ((((r_hg u) <<< ((8 : Int32).toInt64 &&& 63)) &&& 4294967295) ||| 255))) = (rfW cI b (r_shf u)) := by rfl
  rw [hw9] at hP hD
  exact W.vret hx hb hr (fun t ht hW => ⟨⟨(), rfl, trivial, by rw [ht]; exact hP, hD⟩, hS.F ht⟩) hS.2.2 dX5_shift_34

set_option maxHeartbeats 4000000 in
set_option maxRecDepth 100000 in
theorem c_X5_byteOfCode (l : Launch) (D : va_G) (cI cL cM : ClassId) (A : Nat → Prop) (b : Nat → Nat) (u : RS) (j : Nat) (hb9 : r_cs u ≤ 3000) (hj : j < 2147483648) : mI l yX5_byteOfCode wsX5_byteOfCode ({ frames := 0, cells := 0, slots := 0, locals := 0 }) D (tB cI cL cM) A [.ref (b 0), .int (nI j)] (rfW cI b u) (r_boc u j) (rfW cI b u) := by
  refine Met.ofW (cc := cX5_byteOfCode) (maxL := 2) (ret := (some .int)) (by decide) rfl ?_
  intro p e s m args below meth c s₁ B hml hv
  obtain ⟨rfl, hP, hE, hD, hA⟩ := hv
  have hK := hE.1
  have hx := B.exec
  have hb := B.bytes
  have hr := B.returns
  have hts := atoms_spec (ws := wsX5_byteOfCode) B.pre
  have hown : s.vm.findClass RX5 = some m.cls := findClass_of_methodNamed B.named
  have hlocks := B.notSynchronized
  have hS : va_S A s.heap s.heap [] := va_S.rf
  have hl := lv_entry ([.ref (b 0), .int (nI j)]) (n := 2) (Nat.le_of_ble_eq_true rfl)
  rw [lg_entry_eq]
  generalize (lg_sl ([.ref (b 0), .int (nI j)]) ++ List.replicate (2 - (lg_sl ([.ref (b 0), .int (nI j)])).length) Slot.unset).toArray = ls at hl ⊢
  have hl : lv_has ls 2 [(0, .ref (b 0)), (1, .int (nI j))] := hl
  refine lv_iload_n hx hb dX5_byteOfCode_0 rfl (lv_at hl 1 rfl) ?_
  refine lv_aload_n hx hb dX5_byteOfCode_1 rfl (lv_at hl 0 rfl) ?_
  refine va_get (D := D) (ci := 5) (v := .int (nI (r_cs u))) (C := RX5) (T := TX5) (N := 22) hx hb hts (fun _ h => List.mem_cons_of_mem _ (List.mem_append_right _ h)) hown hK hP 0 rfl rfl 16 (by decide) (hts _ (List.mem_of_getElem? (i := 1) rfl)) (fun _ h9 => h9) rfl dX5_byteOfCode_2 ?_
  refine lv_icmp_ge (tgt := 17) hx hb dX5_byteOfCode_5 (by decide) (fun cj => ?_) (fun cj => ?_)
  · replace cj : (nI (r_cs u)) ≤ (nI j) := cj
    have hjn : ¬ j < r_cs u := by have h8 := ge_N (Nat.lt_of_le_of_lt hb9 (Nat.le_of_ble_eq_true rfl)) hj cj; omega
    refine lv_iconst (v := 0) hx hb dX5_byteOfCode_17 (by decide) ?_
    exact W.iret (v := 0) hx hb hr (fun t ht hW => ⟨⟨0, (), rfl, by (unfold r_boc; first | (rw [if_pos hjn]) | (rw [if_neg hjn])), by rw [ht]; exact hP, hD⟩, hS.F ht⟩) hS.2.2 dX5_byteOfCode_18
  · replace cj : ¬ (nI (r_cs u)) ≤ (nI j) := cj
    have hjn : j < r_cs u := nge_N (Nat.lt_of_le_of_lt hb9 (Nat.le_of_ble_eq_true rfl)) hj cj
    have hjl := Nat.lt_of_lt_of_le hjn hb9
    refine lv_aload_n hx hb dX5_byteOfCode_8 rfl (lv_at hl 0 rfl) ?_
    refine va_get (D := D) (ci := 5) (v := .ref (b 11)) (C := RX5) (T := TX5) (N := 22) hx hb hts (fun _ h => List.mem_cons_of_mem _ (List.mem_append_right _ h)) hown hK hP 0 rfl rfl 17 (by decide) (hts _ (List.mem_of_getElem? (i := 2) rfl)) (fun _ h9 => h9) rfl dX5_byteOfCode_9 ?_
    refine lv_iload_n hx hb dX5_byteOfCode_12 rfl (lv_at hl 1 rfl) ?_
    refine ildN hx hb hK hP 11 0 rfl rfl j (hjl) ((Nat.le_of_ble_eq_true rfl)) dX5_byteOfCode_13 ?_
    refine lv_goto (tgt := 18) hx hb dX5_byteOfCode_14 (by decide) ?_
    exact W.iret (v := (r_cd u) j) hx hb hr (fun t ht hW => ⟨⟨((r_cd u) j), (), rfl, by (unfold r_boc; first | (rw [if_pos hjn]) | (rw [if_neg hjn])), by rw [ht]; exact hP, hD⟩, hS.F ht⟩) hS.2.2 dX5_byteOfCode_18
