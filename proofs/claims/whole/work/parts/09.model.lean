/-! ===== Model ===== -/
def qual (q z : Int32) : Int32 := if z = 0 then 4096 - q else q
def o_shp (o : Mo) (od rt t : Int32) : Mo := os_t (os_rt (os_od o od) rt) t
def o_ts (o : Mo) : Int32 := if (512 : Int32) < (1 <<< (o_t o &&& 31)) then 512 else 1 <<< (o_t o &&& 31)
def o_fgt (o : Mo) : Mo := os_cn (os_we (os_se (os_co o (fiI 512 2048 (o_co o))) (fiL 512 0 (o_se o))) (fiI 8 256 (o_we o))) 0
def ctxOf (od : Int32) (la : Nat → Int32) : Int32 := if od ≤ 0 then 0 else if od ≤ 1 then 1 + la 0 else if od ≤ 2 then 257 * (1 + la 0) + 1 + la 1 else 257 * (257 * (1 + la 0) + 1 + la 1) + 1 + la 2
def o_ctx (la : Nat → Int32) (o : Mo) : Mo := os_cx o (ctxOf (o_od o) la)
def o_aim (nd : Int32) (o : Mo) : Mo := os_pl (os_si o (256 * (o_cx o).toInt64 + nd.toInt64)) ((73 * o_cx o + nd) &&& (o_ts o - 1))
def o_gs (o : Mo) : Int32 := o_co o (o_pl o).toNatClampNeg
def wInc (w : Int32) : Int32 := if (60000 : Int32) < w + w / 16 + 1 then 60000 else w + w / 16 + 1
def wDec (w : Int32) : Int32 := if w - w / 16 - 1 < (1 : Int32) then 1 else w - w / 16 - 1
def o_aw (ph z mq : Int32) (o : Mo) : Mo := if qual (o_gs o) z ≤ mq then (if mq ≤ qual (o_gs o) z then o else os_we o (upd (o_we o) ph.toNatClampNeg (wDec (o_we o ph.toNatClampNeg)))) else os_we o (upd (o_we o) ph.toNatClampNeg (wInc (o_we o ph.toNatClampNeg)))
def cUp (q rt : Int32) : Int32 := q + ((4096 - q) >>> (rt &&& 31))
def cDn (q rt : Int32) : Int32 := q - (q >>> (rt &&& 31))
def o_a0 (z : Int32) (o : Mo) : Mo := os_se (os_co o (upd (o_co o) (o_pl o).toNatClampNeg (if z = 0 then cDn (o_gs o) (o_rt o) else cUp (o_gs o) (o_rt o)))) (vp_updL (o_se o) (o_pl o).toNatClampNeg (o_si o))
def o_ac (z : Int32) (o : Mo) : Mo := if lg_cmp (o_se o (o_pl o).toNatClampNeg) 0 = 0 then o_a0 z o else if lg_cmp (o_se o (o_pl o).toNatClampNeg) (o_si o) = 0 then o_a0 z o else os_cn (o_a0 z o) (o_cn o + 1)

set_option maxHeartbeats 4000000 in
set_option maxRecDepth 100000 in
theorem c_X4_quality (l : Launch) (D : va_G) (cI cL cM : ClassId) (A : Nat → Prop) (q z : Int32) : mI l yX4_quality wsX4_quality ({ frames := 0, cells := 0, slots := 0, locals := 0 }) D (tB cI cL cM) A [.int q, .int z] [] (qual q z) [] := by
  refine Met.ofW (cc := cX4_quality) (maxL := 2) (ret := (some .int)) (by decide) rfl ?_
  intro p e s m args below meth c s₁ B hml hv
  obtain ⟨rfl, hP, hE, hD, hA⟩ := hv
  have hK := hE.1
  have hx := B.exec
  have hb := B.bytes
  have hr := B.returns
  have hts := atoms_spec (ws := wsX4_quality) B.pre
  have hown : s.vm.findClass RX4 = some m.cls := findClass_of_methodNamed B.named
  have hlocks := B.notSynchronized
  have hS : va_S A s.heap s.heap [] := va_S.rf
  have hl := lv_entry ([.int q, .int z]) (n := 2) (Nat.le_of_ble_eq_true rfl)
  rw [lg_entry_eq]
  generalize (lg_sl ([.int q, .int z]) ++ List.replicate (2 - (lg_sl ([.int q, .int z])).length) Slot.unset).toArray = ls at hl ⊢
  have hl : lv_has ls 2 [(0, .int q), (1, .int z)] := hl
  refine lv_iload_n hx hb dX4_quality_0 rfl (lv_at hl 1 rfl) ?_
  refine lv_if_eq (tgt := 8) hx hb dX4_quality_1 (by decide) (fun c_1 => ?_) (fun c_1 => ?_)
  · have c_1 : z = (0 : Int32) := c_1
    refine lv_sipush (v := 4096) hx hb dX4_quality_8 (by decide) ?_
    refine lv_iload_n hx hb dX4_quality_11 rfl (lv_at hl 0 rfl) ?_
    refine lv_isub hx hb dX4_quality_12 ?_
    exact W.iret (v := 4096 - q) hx hb hr (fun t ht hW => ⟨⟨(4096 - q), (), rfl, by (try unfold qual); (try rw [if_pos c_1]); try rfl, by rw [ht]; exact hP, hD⟩, hS.F ht⟩) hS.2.2 dX4_quality_13
  · have c_1 : ¬ z = (0 : Int32) := c_1
    refine lv_iload_n hx hb dX4_quality_4 rfl (lv_at hl 0 rfl) ?_
    refine lv_goto (tgt := 13) hx hb dX4_quality_5 (by decide) ?_
    exact W.iret (v := q) hx hb hr (fun t ht hW => ⟨⟨q, (), rfl, by (try unfold qual); (try rw [if_neg c_1]); try rfl, by rw [ht]; exact hP, hD⟩, hS.F ht⟩) hS.2.2 dX4_quality_13

set_option maxHeartbeats 4000000 in
set_option maxRecDepth 100000 in
theorem c_X2_shape (l : Launch) (D : va_G) (cI cL cM : ClassId) (A : Nat → Prop) (h0 h1 h2 h3 : Nat) (o : Mo) (x y t : Int32) : mV l yX2_shape wsX2_shape ({ frames := 0, cells := 0, slots := 0, locals := 0 }) D (tB cI cL cM) A [.ref h0, .int x, .int y, .int t] (moW cI cL h0 h1 h2 h3 o) (moW cI cL h0 h1 h2 h3 (o_shp o x y t)) := by
  refine Met.ofW (cc := cX2_shape) (maxL := 4) (ret := none) (by decide) rfl ?_
  intro p e s m args below meth c s₁ B hml hv
  obtain ⟨rfl, hP, hE, hD, hA⟩ := hv
  have hK := hE.1
  have hx := B.exec
  have hb := B.bytes
  have hr := B.returns
  have hts := atoms_spec (ws := wsX2_shape) B.pre
  have hown : s.vm.findClass RX2 = some m.cls := findClass_of_methodNamed B.named
  have hlocks := B.notSynchronized
  have hS : va_S A s.heap s.heap [] := va_S.rf
  have hl := lv_entry ([.ref h0, .int x, .int y, .int t]) (n := 4) (Nat.le_of_ble_eq_true rfl)
  rw [lg_entry_eq]
  generalize (lg_sl ([.ref h0, .int x, .int y, .int t]) ++ List.replicate (4 - (lg_sl ([.ref h0, .int x, .int y, .int t])).length) Slot.unset).toArray = ls at hl ⊢
  have hl : lv_has ls 4 [(0, .ref h0), (1, .int x), (2, .int y), (3, .int t)] := hl
  refine lv_aload_n hx hb dX2_shape_0 rfl (lv_at hl 0 rfl) ?_
  refine lv_iload_n hx hb dX2_shape_1 rfl (lv_at hl 1 rfl) ?_
  refine va_put (D := D) (ci := 2) (v := .int x) (ty := .int) (C := RX2) (T := TX2) (N := 10) hx hb hts (fun _ h => List.mem_cons_of_mem _ (List.mem_append_right _ h)) tyX2 tyX2_ok nmX2 hown hK hP hD hS 0 rfl rfl 0 (by decide) (hts _ (List.mem_of_getElem? (i := 1) rfl)) (fun _ h9 => h9) rfl (by decide +kernel) rfl rfl (Nat.le_of_ble_eq_true rfl) dX2_shape_2 (fun H locs hP hD hS => ?_)
  have hP : va_P D vwCl (moW cI cL h0 h1 h2 h3 (os_od o x)) H := hP
  have hD : va_D A (moW cI cL h0 h1 h2 h3 (os_od o x)) := hD
  refine lv_aload_n hx hb dX2_shape_5 rfl (lv_at hl 0 rfl) ?_
  refine lv_iload_n hx hb dX2_shape_6 rfl (lv_at hl 2 rfl) ?_
  refine va_put (D := D) (ci := 2) (v := .int y) (ty := .int) (C := RX2) (T := TX2) (N := 10) hx hb hts (fun _ h => List.mem_cons_of_mem _ (List.mem_append_right _ h)) tyX2 tyX2_ok nmX2 hown hK hP hD hS 0 rfl rfl 1 (by decide) (hts _ (List.mem_of_getElem? (i := 2) rfl)) (fun _ h9 => h9) rfl (by decide +kernel) rfl rfl (Nat.le_of_ble_eq_true rfl) dX2_shape_7 (fun H locs hP hD hS => ?_)
  have hP : va_P D vwCl (moW cI cL h0 h1 h2 h3 (os_rt (os_od o x) y)) H := hP
  have hD : va_D A (moW cI cL h0 h1 h2 h3 (os_rt (os_od o x) y)) := hD
  refine lv_aload_n hx hb dX2_shape_10 rfl (lv_at hl 0 rfl) ?_
  refine lv_iload_n hx hb dX2_shape_11 rfl (lv_at hl 3 rfl) ?_
  refine va_put (D := D) (ci := 2) (v := .int t) (ty := .int) (C := RX2) (T := TX2) (N := 10) hx hb hts (fun _ h => List.mem_cons_of_mem _ (List.mem_append_right _ h)) tyX2 tyX2_ok nmX2 hown hK hP hD hS 0 rfl rfl 2 (by decide) (hts _ (List.mem_of_getElem? (i := 3) rfl)) (fun _ h9 => h9) rfl (by decide +kernel) rfl rfl (Nat.le_of_ble_eq_true rfl) dX2_shape_12 (fun H locs hP hD hS => ?_)
  have hP : va_P D vwCl (moW cI cL h0 h1 h2 h3 (os_t (os_rt (os_od o x) y) t)) H := hP
  have hD : va_D A (moW cI cL h0 h1 h2 h3 (os_t (os_rt (os_od o x) y) t)) := hD
  have hw9 : (moW cI cL h0 h1 h2 h3 (os_t (os_rt (os_od o x) y) t)) = (moW cI cL h0 h1 h2 h3 (o_shp o x y t)) := by rfl
  rw [hw9] at hP hD
  exact W.vret hx hb hr (fun t ht hW => ⟨⟨(), rfl, trivial, by rw [ht]; exact hP, hD⟩, hS.F ht⟩) hS.2.2 dX2_shape_15

set_option maxHeartbeats 4000000 in
set_option maxRecDepth 100000 in
theorem c_X2_tableSize (l : Launch) (D : va_G) (cI cL cM : ClassId) (A : Nat → Prop) (h0 h1 h2 h3 : Nat) (o : Mo) : mI l yX2_tableSize wsX2_tableSize ({ frames := 1, cells := 0, slots := 0, locals := 24 }) D (tB cI cL cM) A [.ref h0] (moW cI cL h0 h1 h2 h3 o) (o_ts o) (moW cI cL h0 h1 h2 h3 o) := by
  refine Met.ofW (cc := cX2_tableSize) (maxL := 1) (ret := (some .int)) (by decide) rfl ?_
  intro p e s m args below meth c s₁ B hml hv
  obtain ⟨rfl, hP, hE, hD, hA⟩ := hv
  have hK := hE.1
  have hx := B.exec
  have hb := B.bytes
  have hr := B.returns
  have hts := atoms_spec (ws := wsX2_tableSize) B.pre
  have hown : s.vm.findClass RX2 = some m.cls := findClass_of_methodNamed B.named
  have hlocks := B.notSynchronized
  have hS : va_S A s.heap s.heap [] := va_S.rf
  have hl := lv_entry ([.ref h0]) (n := 1) (Nat.le_of_ble_eq_true rfl)
  rw [lg_entry_eq]
  generalize (lg_sl ([.ref h0]) ++ List.replicate (1 - (lg_sl ([.ref h0])).length) Slot.unset).toArray = ls at hl ⊢
  have hl : lv_has ls 1 [(0, .ref h0)] := hl
  refine lv_iconst (v := 1) hx hb dX2_tableSize_0 (by decide) ?_
  refine lv_aload_n hx hb dX2_tableSize_1 rfl (lv_at hl 0 rfl) ?_
  refine va_get (D := D) (ci := 2) (v := .int (o_t o)) (C := RX2) (T := TX2) (N := 10) hx hb hts (fun _ h => List.mem_cons_of_mem _ (List.mem_append_right _ h)) hown hK hP 0 rfl rfl 2 (by decide) (hts _ (List.mem_of_getElem? (i := 1) rfl)) (fun _ h9 => h9) rfl dX2_tableSize_2 ?_
  refine lv_ishl hx hb dX2_tableSize_5 ?_
  refine lv_sipush (v := 512) hx hb dX2_tableSize_6 (by decide) ?_
  refine va_mmin hx hb (hml.trans hl.1.symm) hown (hts _ (List.mem_of_getElem? (i := 2) rfl)) (hts _ (List.mem_of_getElem? (i := 3) rfl)) (hts _ (List.mem_of_getElem? (i := 4) rfl)) (hts _ (List.mem_of_getElem? (i := 5) rfl)) (Nat.le_of_ble_eq_true rfl) (Nat.le_of_ble_eq_true rfl) (Nat.le_of_ble_eq_true rfl) (Nat.le_of_ble_eq_true rfl) dX2_tableSize_9 ?_
  exact W.iret (v := if (512 : Int32) < ((1 : Int32) <<< ((o_t o) &&& 31)) then (512 : Int32) else ((1 : Int32) <<< ((o_t o) &&& 31))) hx hb hr (fun t ht hW => ⟨⟨(if (512 : Int32) < ((1 : Int32) <<< ((o_t o) &&& 31)) then (512 : Int32) else ((1 : Int32) <<< ((o_t o) &&& 31))), (), rfl, by rfl, by rw [ht]; exact hP, hD⟩, hS.F ht⟩) hS.2.2 dX2_tableSize_12

set_option maxHeartbeats 4000000 in
set_option maxRecDepth 100000 in
theorem c_X2_forget (l : Launch) (D : va_G) (cI cL cM : ClassId) (A : Nat → Prop) (h0 h1 h2 h3 : Nat) (o : Mo) : mV l yX2_forget wsX2_forget ({ frames := 1, cells := 0, slots := 0, locals := 24 }) D (tB cI cL cM) A [.ref h0] (moW cI cL h0 h1 h2 h3 o) (moW cI cL h0 h1 h2 h3 (o_fgt o)) := by
  refine Met.ofW (cc := cX2_forget) (maxL := 1) (ret := none) (by decide) rfl ?_
  intro p e s m args below meth c s₁ B hml hv
  obtain ⟨rfl, hP, hE, hD, hA⟩ := hv
  have hK := hE.1
  have hx := B.exec
  have hb := B.bytes
  have hr := B.returns
  have hts := atoms_spec (ws := wsX2_forget) B.pre
  have hown : s.vm.findClass RX2 = some m.cls := findClass_of_methodNamed B.named
  have hlocks := B.notSynchronized
  have hS : va_S A s.heap s.heap [] := va_S.rf
  have hl := lv_entry ([.ref h0]) (n := 1) (Nat.le_of_ble_eq_true rfl)
  rw [lg_entry_eq]
  generalize (lg_sl ([.ref h0]) ++ List.replicate (1 - (lg_sl ([.ref h0])).length) Slot.unset).toArray = ls at hl ⊢
  have hl : lv_has ls 1 [(0, .ref h0)] := hl
  refine lv_aload_n hx hb dX2_forget_0 rfl (lv_at hl 0 rfl) ?_
  refine va_get (D := D) (ci := 2) (v := .ref h1) (C := RX2) (T := TX2) (N := 10) hx hb hts (fun _ h => List.mem_cons_of_mem _ (List.mem_append_right _ h)) hown hK hP 0 rfl rfl 3 (by decide) (hts _ (List.mem_of_getElem? (i := 1) rfl)) (fun _ h9 => h9) rfl dX2_forget_1 ?_
  refine lv_sipush (v := 2048) hx hb dX2_forget_4 (by decide) ?_
  refine kV (rS (As := [.ref h1, .int 2048]) (rest := []) ⟨hx, hb, hml, hown, hts⟩ (c_J7_fill_53178 l D cI cL cM _ h1 512 (o_co o) 2048 (Nat.le_of_ble_eq_true rfl)) (va_cwS 2 hts gX2_forget_J7_fill_53178 rfl rfl rfl (by decide +kernel) ⟨(Nat.le_of_ble_eq_true rfl), (Nat.le_of_ble_eq_true rfl)⟩) hE hP hD [1] rfl rfl rfl hl.1 rfl (Nat.le_of_ble_eq_true rfl) dX2_forget_7 ⟨(Nat.le_of_ble_eq_true rfl), (Nat.le_of_ble_eq_true rfl)⟩) hP hD hS hA (is := [1]) rfl rfl (fun H locs hP hD hS => ?_)
  rw [moW_co] at hP hD
  have hP : va_P D vwCl (moW cI cL h0 h1 h2 h3 (os_co o (fiI 512 2048 (o_co o)))) H := hP
  have hD : va_D A (moW cI cL h0 h1 h2 h3 (os_co o (fiI 512 2048 (o_co o)))) := hD
  refine lv_aload_n hx hb dX2_forget_10 rfl (lv_at hl 0 rfl) ?_
  refine va_get (D := D) (ci := 2) (v := .ref h2) (C := RX2) (T := TX2) (N := 10) hx hb hts (fun _ h => List.mem_cons_of_mem _ (List.mem_append_right _ h)) hown hK hP 0 rfl rfl 4 (by decide) (hts _ (List.mem_of_getElem? (i := 2) rfl)) (fun _ h9 => h9) rfl dX2_forget_11 ?_
  refine lv_lconst (v := 0) hx hb dX2_forget_14 (by decide) ?_
  refine kV (rS (As := [.ref h2, .long 0]) (rest := []) ⟨hx, hb, hml, hown, hts⟩ (c_J7_fill_d0a16 l D cI cL cM _ h2 512 (o_se o) 0 (Nat.le_of_ble_eq_true rfl)) (va_cwS 2 hts gX2_forget_J7_fill_d0a16 rfl rfl rfl (by decide +kernel) ⟨(Nat.le_of_ble_eq_true rfl), (Nat.le_of_ble_eq_true rfl)⟩) hE hP hD [2] rfl rfl rfl hl.1 rfl (Nat.le_of_ble_eq_true rfl) dX2_forget_15 ⟨(Nat.le_of_ble_eq_true rfl), (Nat.le_of_ble_eq_true rfl)⟩) hP hD hS hA (is := [2]) rfl rfl (fun H locs hP hD hS => ?_)
  rw [moW_se] at hP hD
  have hP : va_P D vwCl (moW cI cL h0 h1 h2 h3 (os_se (os_co o (fiI 512 2048 (o_co o))) (fiL 512 0 (o_se o)))) H := hP
  have hD : va_D A (moW cI cL h0 h1 h2 h3 (os_se (os_co o (fiI 512 2048 (o_co o))) (fiL 512 0 (o_se o)))) := hD
  refine lv_aload_n hx hb dX2_forget_18 rfl (lv_at hl 0 rfl) ?_
  refine va_get (D := D) (ci := 2) (v := .ref h3) (C := RX2) (T := TX2) (N := 10) hx hb hts (fun _ h => List.mem_cons_of_mem _ (List.mem_append_right _ h)) hown hK hP 0 rfl rfl 5 (by decide) (hts _ (List.mem_of_getElem? (i := 3) rfl)) (fun _ h9 => h9) rfl dX2_forget_19 ?_
  refine lv_sipush (v := 256) hx hb dX2_forget_22 (by decide) ?_
  refine kV (rS (As := [.ref h3, .int 256]) (rest := []) ⟨hx, hb, hml, hown, hts⟩ (c_J7_fill_53178 l D cI cL cM _ h3 8 (o_we o) 256 (Nat.le_of_ble_eq_true rfl)) (va_cwS 2 hts gX2_forget_J7_fill_53178 rfl rfl rfl (by decide +kernel) ⟨(Nat.le_of_ble_eq_true rfl), (Nat.le_of_ble_eq_true rfl)⟩) hE hP hD [3] rfl rfl rfl hl.1 rfl (Nat.le_of_ble_eq_true rfl) dX2_forget_25 ⟨(Nat.le_of_ble_eq_true rfl), (Nat.le_of_ble_eq_true rfl)⟩) hP hD hS hA (is := [3]) rfl rfl (fun H locs hP hD hS => ?_)
  rw [moW_we] at hP hD
  have hP : va_P D vwCl (moW cI cL h0 h1 h2 h3 (os_we (os_se (os_co o (fiI 512 2048 (o_co o))) (fiL 512 0 (o_se o))) (fiI 8 256 (o_we o)))) H := hP
  have hD : va_D A (moW cI cL h0 h1 h2 h3 (os_we (os_se (os_co o (fiI 512 2048 (o_co o))) (fiL 512 0 (o_se o))) (fiI 8 256 (o_we o)))) := hD
  refine lv_aload_n hx hb dX2_forget_28 rfl (lv_at hl 0 rfl) ?_
  refine lv_iconst (v := 0) hx hb dX2_forget_29 (by decide) ?_
  refine va_put (D := D) (ci := 2) (v := .int 0) (ty := .int) (C := RX2) (T := TX2) (N := 10) hx hb hts (fun _ h => List.mem_cons_of_mem _ (List.mem_append_right _ h)) tyX2 tyX2_ok nmX2 hown hK hP hD hS 0 rfl rfl 6 (by decide) (hts _ (List.mem_of_getElem? (i := 4) rfl)) (fun _ h9 => h9) rfl (by decide +kernel) rfl rfl (Nat.le_of_ble_eq_true rfl) dX2_forget_30 (fun H locs hP hD hS => ?_)
  have hP : va_P D vwCl (moW cI cL h0 h1 h2 h3 (os_cn (os_we (os_se (os_co o (fiI 512 2048 (o_co o))) (fiL 512 0 (o_se o))) (fiI 8 256 (o_we o))) 0)) H := hP
  have hD : va_D A (moW cI cL h0 h1 h2 h3 (os_cn (os_we (os_se (os_co o (fiI 512 2048 (o_co o))) (fiL 512 0 (o_se o))) (fiI 8 256 (o_we o))) 0)) := hD
  have hw9 : (moW cI cL h0 h1 h2 h3 (os_cn (os_we (os_se (os_co o (fiI 512 2048 (o_co o))) (fiL 512 0 (o_se o))) (fiI 8 256 (o_we o))) 0)) = (moW cI cL h0 h1 h2 h3 (o_fgt o)) := by rfl
  rw [hw9] at hP hD
  exact W.vret hx hb hr (fun t ht hW => ⟨⟨(), rfl, trivial, by rw [ht]; exact hP, hD⟩, hS.F ht⟩) hS.2.2 dX2_forget_33

set_option maxHeartbeats 4000000 in
set_option maxRecDepth 100000 in
theorem c_X2_aim (l : Launch) (D : va_G) (cI cL cM : ClassId) (A : Nat → Prop) (h0 h1 h2 h3 : Nat) (o : Mo) (nd : Int32) : mV l yX2_aim wsX2_aim ({ frames := 2, cells := 0, slots := 0, locals := 44 }) D (tB cI cL cM) A [.ref h0, .int nd] (moW cI cL h0 h1 h2 h3 o) (moW cI cL h0 h1 h2 h3 (o_aim nd o)) := by
  refine Met.ofW (cc := cX2_aim) (maxL := 2) (ret := none) (by decide) rfl ?_
  intro p e s m args below meth c s₁ B hml hv
  obtain ⟨rfl, hP, hE, hD, hA⟩ := hv
  have hK := hE.1
  have hx := B.exec
  have hb := B.bytes
  have hr := B.returns
  have hts := atoms_spec (ws := wsX2_aim) B.pre
  have hown : s.vm.findClass RX2 = some m.cls := findClass_of_methodNamed B.named
  have hlocks := B.notSynchronized
  have hS : va_S A s.heap s.heap [] := va_S.rf
  have hl := lv_entry ([.ref h0, .int nd]) (n := 2) (Nat.le_of_ble_eq_true rfl)
  rw [lg_entry_eq]
  generalize (lg_sl ([.ref h0, .int nd]) ++ List.replicate (2 - (lg_sl ([.ref h0, .int nd])).length) Slot.unset).toArray = ls at hl ⊢
  have hl : lv_has ls 2 [(0, .ref h0), (1, .int nd)] := hl
  refine lv_aload_n hx hb dX2_aim_0 rfl (lv_at hl 0 rfl) ?_
  refine lv_ldc2 hx hb hown (hts _ (List.mem_of_getElem? (i := 1) rfl)) dX2_aim_1 ?_
  refine lv_aload_n hx hb dX2_aim_4 rfl (lv_at hl 0 rfl) ?_
  refine va_get (D := D) (ci := 2) (v := .int (o_cx o)) (C := RX2) (T := TX2) (N := 10) hx hb hts (fun _ h => List.mem_cons_of_mem _ (List.mem_append_right _ h)) hown hK hP 0 rfl rfl 7 (by decide) (hts _ (List.mem_of_getElem? (i := 2) rfl)) (fun _ h9 => h9) rfl dX2_aim_5 ?_
  refine lv_i2l hx hb dX2_aim_8 rfl ?_
  refine lv_lmul hx hb dX2_aim_9 ?_
  refine lv_iload_n hx hb dX2_aim_10 rfl (lv_at hl 1 rfl) ?_
  refine lv_i2l hx hb dX2_aim_11 rfl ?_
  refine lv_ladd hx hb dX2_aim_12 ?_
  refine va_put (D := D) (ci := 2) (v := .long ((256 * ((o_cx o).toInt64)) + nd.toInt64)) (ty := .long) (C := RX2) (T := TX2) (N := 10) hx hb hts (fun _ h => List.mem_cons_of_mem _ (List.mem_append_right _ h)) tyX2 tyX2_ok nmX2 hown hK hP hD hS 0 rfl rfl 8 (by decide) (hts _ (List.mem_of_getElem? (i := 3) rfl)) (fun _ h9 => h9) rfl (by decide +kernel) rfl rfl (Nat.le_of_ble_eq_true rfl) dX2_aim_13 (fun H locs hP hD hS => ?_)
  have hP : va_P D vwCl (moW cI cL h0 h1 h2 h3 (os_si o ((256 * ((o_cx o).toInt64)) + nd.toInt64))) H := hP
  have hD : va_D A (moW cI cL h0 h1 h2 h3 (os_si o ((256 * ((o_cx o).toInt64)) + nd.toInt64))) := hD
  refine lv_aload_n hx hb dX2_aim_16 rfl (lv_at hl 0 rfl) ?_
  refine lv_bipush (v := 73) hx hb dX2_aim_17 (by decide) ?_
  refine lv_aload_n hx hb dX2_aim_19 rfl (lv_at hl 0 rfl) ?_
  refine va_get (D := D) (ci := 2) (v := .int (o_cx o)) (C := RX2) (T := TX2) (N := 10) hx hb hts (fun _ h => List.mem_cons_of_mem _ (List.mem_append_right _ h)) hown hK hP 0 rfl rfl 7 (by decide) (hts _ (List.mem_of_getElem? (i := 2) rfl)) (fun _ h9 => h9) rfl dX2_aim_20 ?_
  refine lv_imul hx hb dX2_aim_23 ?_
  refine lv_iload_n hx hb dX2_aim_24 rfl (lv_at hl 1 rfl) ?_
  refine lv_iadd hx hb dX2_aim_25 ?_
  refine lv_aload_n hx hb dX2_aim_26 rfl (lv_at hl 0 rfl) ?_
  refine kI (rV (As := []) (rest := [.int ((73 * (o_cx o)) + nd), .ref h0]) ⟨hx, hb, hml, hown, hts⟩ (c_X2_tableSize l D cI cL cM _ h0 h1 h2 h3 (os_si o ((256 * ((o_cx o).toInt64)) + nd.toInt64))  ) (cwV 0 hts gX2_aim_X2_tableSize rfl rfl rfl (by decide +kernel) ⟨(Nat.le_of_ble_eq_true rfl), (Nat.le_of_ble_eq_true rfl)⟩) hE hP hD [0, 1, 2, 3] rfl rfl rfl rfl rfl hl.1 rfl (Nat.le_of_ble_eq_true rfl) dX2_aim_27 ⟨(Nat.le_of_ble_eq_true rfl), (Nat.le_of_ble_eq_true rfl)⟩) hP hD hS hA (is := [0, 1, 2, 3]) rfl rfl (fun H locs hP hD hS => ?_)
  rw [moW_all] at hP hD
  have hP : va_P D vwCl (moW cI cL h0 h1 h2 h3 (os_si o ((256 * ((o_cx o).toInt64)) + nd.toInt64))) H := hP
  have hD : va_D A (moW cI cL h0 h1 h2 h3 (os_si o ((256 * ((o_cx o).toInt64)) + nd.toInt64))) := hD
  refine lv_iconst (v := 1) hx hb dX2_aim_30 (by decide) ?_
  refine lv_isub hx hb dX2_aim_31 ?_
  refine lv_iand hx hb dX2_aim_32 ?_
  refine va_put (D := D) (ci := 2) (v := .int (((73 * (o_cx o)) + nd) &&& ((o_ts (os_si o ((256 * ((o_cx o).toInt64)) + nd.toInt64))) - 1))) (ty := .int) (C := RX2) (T := TX2) (N := 10) hx hb hts (fun _ h => List.mem_cons_of_mem _ (List.mem_append_right _ h)) tyX2 tyX2_ok nmX2 hown hK hP hD hS 0 rfl rfl 9 (by decide) (hts _ (List.mem_of_getElem? (i := 4) rfl)) (fun _ h9 => h9) rfl (by decide +kernel) rfl rfl (Nat.le_of_ble_eq_true rfl) dX2_aim_33 (fun H locs hP hD hS => ?_)
  have hP : va_P D vwCl (moW cI cL h0 h1 h2 h3 (os_pl (os_si o ((256 * ((o_cx o).toInt64)) + nd.toInt64)) (((73 * (o_cx o)) + nd) &&& ((o_ts (os_si o ((256 * ((o_cx o).toInt64)) + nd.toInt64))) - 1)))) H := hP
  have hD : va_D A (moW cI cL h0 h1 h2 h3 (os_pl (os_si o ((256 * ((o_cx o).toInt64)) + nd.toInt64)) (((73 * (o_cx o)) + nd) &&& ((o_ts (os_si o ((256 * ((o_cx o).toInt64)) + nd.toInt64))) - 1)))) := hD
  have hw9 : (moW cI cL h0 h1 h2 h3 (os_pl (os_si o ((256 * ((o_cx o).toInt64)) + nd.toInt64)) (((73 * (o_cx o)) + nd) &&& ((o_ts (os_si o ((256 * ((o_cx o).toInt64)) + nd.toInt64))) - 1)))) = (moW cI cL h0 h1 h2 h3 (o_aim nd o)) := by rfl
  rw [hw9] at hP hD
  exact W.vret hx hb hr (fun t ht hW => ⟨⟨(), rfl, trivial, by rw [ht]; exact hP, hD⟩, hS.F ht⟩) hS.2.2 dX2_aim_36

set_option maxHeartbeats 4000000 in
set_option maxRecDepth 100000 in
theorem c_X2_guess (l : Launch) (D : va_G) (cI cL cM : ClassId) (A : Nat → Prop) (h0 h1 h2 h3 : Nat) (o : Mo) (hp : vp_in (o_pl o) 512) : mI l yX2_guess wsX2_guess ({ frames := 0, cells := 0, slots := 0, locals := 0 }) D (tB cI cL cM) A [.ref h0] (moW cI cL h0 h1 h2 h3 o) (o_gs o) (moW cI cL h0 h1 h2 h3 o) := by
  refine Met.ofW (cc := cX2_guess) (maxL := 1) (ret := (some .int)) (by decide) rfl ?_
  intro p e s m args below meth c s₁ B hml hv
  obtain ⟨rfl, hP, hE, hD, hA⟩ := hv
  have hK := hE.1
  have hx := B.exec
  have hb := B.bytes
  have hr := B.returns
  have hts := atoms_spec (ws := wsX2_guess) B.pre
  have hown : s.vm.findClass RX2 = some m.cls := findClass_of_methodNamed B.named
  have hlocks := B.notSynchronized
  have hS : va_S A s.heap s.heap [] := va_S.rf
  have hl := lv_entry ([.ref h0]) (n := 1) (Nat.le_of_ble_eq_true rfl)
  rw [lg_entry_eq]
  generalize (lg_sl ([.ref h0]) ++ List.replicate (1 - (lg_sl ([.ref h0])).length) Slot.unset).toArray = ls at hl ⊢
  have hl : lv_has ls 1 [(0, .ref h0)] := hl
  refine lv_aload_n hx hb dX2_guess_0 rfl (lv_at hl 0 rfl) ?_
  refine va_get (D := D) (ci := 2) (v := .ref h1) (C := RX2) (T := TX2) (N := 10) hx hb hts (fun _ h => List.mem_cons_of_mem _ (List.mem_append_right _ h)) hown hK hP 0 rfl rfl 3 (by decide) (hts _ (List.mem_of_getElem? (i := 1) rfl)) (fun _ h9 => h9) rfl dX2_guess_1 ?_
  refine lv_aload_n hx hb dX2_guess_4 rfl (lv_at hl 0 rfl) ?_
  refine va_get (D := D) (ci := 2) (v := .int (o_pl o)) (C := RX2) (T := TX2) (N := 10) hx hb hts (fun _ h => List.mem_cons_of_mem _ (List.mem_append_right _ h)) hown hK hP 0 rfl rfl 9 (by decide) (hts _ (List.mem_of_getElem? (i := 2) rfl)) (fun _ h9 => h9) rfl dX2_guess_5 ?_
  refine va_iald hx hb hK hP 1 0 rfl rfl (hp) dX2_guess_8 ?_
  exact W.iret (v := (o_co o) (o_pl o).toNatClampNeg) hx hb hr (fun t ht hW => ⟨⟨((o_co o) (o_pl o).toNatClampNeg), (), rfl, by rfl, by rw [ht]; exact hP, hD⟩, hS.F ht⟩) hS.2.2 dX2_guess_9

set_option maxHeartbeats 4000000 in
set_option maxRecDepth 100000 in
theorem c_X2_adjustWeight (l : Launch) (D : va_G) (cI cL cM : ClassId) (A : Nat → Prop) (h0 h1 h2 h3 : Nat) (o : Mo) (ph z mq : Int32) (hp : vp_in (o_pl o) 512) (hh : vp_in ph 8) : mV l yX2_adjustWeight wsX2_adjustWeight ({ frames := 1, cells := 0, slots := 0, locals := 24 }) D (tB cI cL cM) A [.ref h0, .int ph, .int z, .int mq] (moW cI cL h0 h1 h2 h3 o) (moW cI cL h0 h1 h2 h3 (o_aw ph z mq o)) := by
  refine Met.ofW (cc := cX2_adjustWeight) (maxL := 6) (ret := none) (by decide) rfl ?_
  intro p e s m args below meth c s₁ B hml hv
  obtain ⟨rfl, hP, hE, hD, hA⟩ := hv
  have hK := hE.1
  have hx := B.exec
  have hb := B.bytes
  have hr := B.returns
  have hts := atoms_spec (ws := wsX2_adjustWeight) B.pre
  have hown : s.vm.findClass RX2 = some m.cls := findClass_of_methodNamed B.named
  have hlocks := B.notSynchronized
  have hS : va_S A s.heap s.heap [] := va_S.rf
  have hl := lv_entry ([.ref h0, .int ph, .int z, .int mq]) (n := 6) (Nat.le_of_ble_eq_true rfl)
  rw [lg_entry_eq]
  generalize (lg_sl ([.ref h0, .int ph, .int z, .int mq]) ++ List.replicate (6 - (lg_sl ([.ref h0, .int ph, .int z, .int mq])).length) Slot.unset).toArray = ls at hl ⊢
  have hl : lv_has ls 6 [(0, .ref h0), (1, .int ph), (2, .int z), (3, .int mq)] := hl
  refine lv_aload_n hx hb dX2_adjustWeight_0 rfl (lv_at hl 0 rfl) ?_
  refine kI (rV (As := []) (rest := []) ⟨hx, hb, hml, hown, hts⟩ (c_X2_guess l D cI cL cM _ h0 h1 h2 h3 o  hp) (cwV 0 hts gX2_adjustWeight_X2_guess rfl rfl rfl (by decide +kernel) ⟨(Nat.le_of_ble_eq_true rfl), (Nat.le_of_ble_eq_true rfl)⟩) hE hP hD [0, 1, 2, 3] rfl rfl rfl rfl rfl hl.1 rfl (Nat.le_of_ble_eq_true rfl) dX2_adjustWeight_1 ⟨(Nat.le_of_ble_eq_true rfl), (Nat.le_of_ble_eq_true rfl)⟩) hP hD hS hA (is := [0, 1, 2, 3]) rfl rfl (fun H locs hP hD hS => ?_)
  rw [moW_all] at hP hD
  have hP : va_P D vwCl (moW cI cL h0 h1 h2 h3 o) H := hP
  have hD : va_D A (moW cI cL h0 h1 h2 h3 o) := hD
  refine lv_iload_n hx hb dX2_adjustWeight_4 rfl (lv_at hl 2 rfl) ?_
  refine kI (rSN (As := [.int (o_gs o), .int z]) (rest := []) ⟨hx, hb, hml, hown, hts⟩ (c_X4_quality l D cI cL cM _ (o_gs o) z ) ⟨va_cnB 2 hts gX2_adjustWeight_X4_quality_n69 rfl rfl rfl hE.2.1 (hts _ (List.mem_of_getElem? (i := 18) rfl)) (by decide +kernel) ⟨(Nat.le_of_ble_eq_true rfl), (Nat.le_of_ble_eq_true rfl)⟩, (hts _ (List.mem_of_getElem? (i := 17) rfl)), trivial⟩ hE hP hD [] rfl rfl rfl hl.1 rfl (Nat.le_of_ble_eq_true rfl) dX2_adjustWeight_5 ⟨(Nat.le_of_ble_eq_true rfl), (Nat.le_of_ble_eq_true rfl)⟩) hP hD hS hA (is := []) rfl rfl (fun H locs hP hD hS => ?_)
  rw [putW_nil] at hP hD
  have hP : va_P D vwCl (moW cI cL h0 h1 h2 h3 o) H := hP
  have hD : va_D A (moW cI cL h0 h1 h2 h3 o) := hD
  refine lv_istore (lv' := [(4, .int (qual (o_gs o) z)), (0, .ref h0), (1, .int ph), (2, .int z), (3, .int mq)]) hx hb dX2_adjustWeight_8 hl (by decide) rfl (fun ls hl => ?_)
  refine lv_aload_n hx hb dX2_adjustWeight_10 rfl (lv_at hl 1 rfl) ?_
  refine va_get (D := D) (ci := 2) (v := .ref h3) (C := RX2) (T := TX2) (N := 10) hx hb hts (fun _ h => List.mem_cons_of_mem _ (List.mem_append_right _ h)) hown hK hP 0 rfl rfl 5 (by decide) (hts _ (List.mem_of_getElem? (i := 1) rfl)) (fun _ h9 => h9) rfl dX2_adjustWeight_11 ?_
  refine lv_iload_n hx hb dX2_adjustWeight_14 rfl (lv_at hl 2 rfl) ?_
  refine va_iald hx hb hK hP 3 0 rfl rfl (hh) dX2_adjustWeight_15 ?_
  refine lv_istore (lv' := [(5, .int ((o_we o) ph.toNatClampNeg)), (4, .int (qual (o_gs o) z)), (0, .ref h0), (1, .int ph), (2, .int z), (3, .int mq)]) hx hb dX2_adjustWeight_16 hl (by decide) rfl (fun ls hl => ?_)
  refine lv_iload hx hb dX2_adjustWeight_18 (lv_at hl 1 rfl) ?_
  refine lv_iload_n hx hb dX2_adjustWeight_20 rfl (lv_at hl 5 rfl) ?_
  refine lv_icmp_le (tgt := 48) hx hb dX2_adjustWeight_21 (by decide) (fun c_1 => ?_) (fun c_1 => ?_)
  · have c_1 : (qual (o_gs o) z) ≤ mq := c_1
    refine lv_iload hx hb dX2_adjustWeight_48 (lv_at hl 1 rfl) ?_
    refine lv_iload_n hx hb dX2_adjustWeight_50 rfl (lv_at hl 5 rfl) ?_
    refine lv_icmp_ge (tgt := 74) hx hb dX2_adjustWeight_51 (by decide) (fun c_2 => ?_) (fun c_2 => ?_)
    · have c_2 : mq ≤ (qual (o_gs o) z) := c_2
      have hw9 : (moW cI cL h0 h1 h2 h3 o) = (moW cI cL h0 h1 h2 h3 (o_aw ph z mq o)) := by (try unfold o_aw); (try unfold wInc); (try unfold wDec); (try rw [if_pos c_1]); (try rw [if_pos c_2]); try rfl
      rw [hw9] at hP hD
      exact W.vret hx hb hr (fun t ht hW => ⟨⟨(), rfl, trivial, by rw [ht]; exact hP, hD⟩, hS.F ht⟩) hS.2.2 dX2_adjustWeight_74
    · have c_2 : ¬ mq ≤ (qual (o_gs o) z) := c_2
      refine lv_aload_n hx hb dX2_adjustWeight_54 rfl (lv_at hl 2 rfl) ?_
      refine va_get (D := D) (ci := 2) (v := .ref h3) (C := RX2) (T := TX2) (N := 10) hx hb hts (fun _ h => List.mem_cons_of_mem _ (List.mem_append_right _ h)) hown hK hP 0 rfl rfl 5 (by decide) (hts _ (List.mem_of_getElem? (i := 1) rfl)) (fun _ h9 => h9) rfl dX2_adjustWeight_55 ?_
      refine lv_iload_n hx hb dX2_adjustWeight_58 rfl (lv_at hl 3 rfl) ?_
      refine lv_iload hx hb dX2_adjustWeight_59 (lv_at hl 0 rfl) ?_
      refine lv_iload hx hb dX2_adjustWeight_61 (lv_at hl 0 rfl) ?_
      refine lv_bipush (v := 16) hx hb dX2_adjustWeight_63 (by decide) ?_
      refine lv_idiv hx hb dX2_adjustWeight_65 (by decide) ?_
      refine lv_isub hx hb dX2_adjustWeight_66 ?_
      refine lv_iconst (v := 1) hx hb dX2_adjustWeight_67 (by decide) ?_
      refine lv_isub hx hb dX2_adjustWeight_68 ?_
      refine lv_iconst (v := 1) hx hb dX2_adjustWeight_69 (by decide) ?_
      refine va_mmax hx hb (hml.trans hl.1.symm) hown (hts _ (List.mem_of_getElem? (i := 7) rfl)) (hts _ (List.mem_of_getElem? (i := 8) rfl)) (hts _ (List.mem_of_getElem? (i := 5) rfl)) (hts _ (List.mem_of_getElem? (i := 9) rfl)) (Nat.le_of_ble_eq_true rfl) (Nat.le_of_ble_eq_true rfl) (Nat.le_of_ble_eq_true rfl) (Nat.le_of_ble_eq_true rfl) dX2_adjustWeight_70 ?_
      refine va_iast hx hb hK hP hD hS 3 0 rfl rfl (hh) dX2_adjustWeight_73 (fun H locs hP hD hS => ?_)
      have hP : va_P D vwCl (moW cI cL h0 h1 h2 h3 (os_we o (upd (o_we o) ph.toNatClampNeg (if ((((o_we o) ph.toNatClampNeg) - (((o_we o) ph.toNatClampNeg) / 16)) - 1) < (1 : Int32) then (1 : Int32) else ((((o_we o) ph.toNatClampNeg) - (((o_we o) ph.toNatClampNeg) / 16)) - 1))))) H := hP
      have hD : va_D A (moW cI cL h0 h1 h2 h3 (os_we o (upd (o_we o) ph.toNatClampNeg (if ((((o_we o) ph.toNatClampNeg) - (((o_we o) ph.toNatClampNeg) / 16)) - 1) < (1 : Int32) then (1 : Int32) else ((((o_we o) ph.toNatClampNeg) - (((o_we o) ph.toNatClampNeg) / 16)) - 1))))) := hD
      have hw9 : (moW cI cL h0 h1 h2 h3 (os_we o (upd (o_we o) ph.toNatClampNeg (if ((((o_we o) ph.toNatClampNeg) - (((o_we o) ph.toNatClampNeg) / 16)) - 1) < (1 : Int32) then (1 : Int32) else ((((o_we o) ph.toNatClampNeg) - (((o_we o) ph.toNatClampNeg) / 16)) - 1))))) = (moW cI cL h0 h1 h2 h3 (o_aw ph z mq o)) := by (try unfold o_aw); (try unfold wInc); (try unfold wDec); (try rw [if_pos c_1]); (try rw [if_neg c_2]); try rfl
      rw [hw9] at hP hD
      exact W.vret hx hb hr (fun t ht hW => ⟨⟨(), rfl, trivial, by rw [ht]; exact hP, hD⟩, hS.F ht⟩) hS.2.2 dX2_adjustWeight_74
  · have c_1 : ¬ (qual (o_gs o) z) ≤ mq := c_1
    refine lv_aload_n hx hb dX2_adjustWeight_24 rfl (lv_at hl 2 rfl) ?_
    refine va_get (D := D) (ci := 2) (v := .ref h3) (C := RX2) (T := TX2) (N := 10) hx hb hts (fun _ h => List.mem_cons_of_mem _ (List.mem_append_right _ h)) hown hK hP 0 rfl rfl 5 (by decide) (hts _ (List.mem_of_getElem? (i := 1) rfl)) (fun _ h9 => h9) rfl dX2_adjustWeight_25 ?_
    refine lv_iload_n hx hb dX2_adjustWeight_28 rfl (lv_at hl 3 rfl) ?_
    refine lv_iload hx hb dX2_adjustWeight_29 (lv_at hl 0 rfl) ?_
    refine lv_iload hx hb dX2_adjustWeight_31 (lv_at hl 0 rfl) ?_
    refine lv_bipush (v := 16) hx hb dX2_adjustWeight_33 (by decide) ?_
    refine lv_idiv hx hb dX2_adjustWeight_35 (by decide) ?_
    refine lv_iadd hx hb dX2_adjustWeight_36 ?_
    refine lv_iconst (v := 1) hx hb dX2_adjustWeight_37 (by decide) ?_
    refine lv_iadd hx hb dX2_adjustWeight_38 ?_
    refine lv_ldc hx hb hown (hts _ (List.mem_of_getElem? (i := 2) rfl)) dX2_adjustWeight_39 ?_
    refine va_mmin hx hb (hml.trans hl.1.symm) hown (hts _ (List.mem_of_getElem? (i := 3) rfl)) (hts _ (List.mem_of_getElem? (i := 4) rfl)) (hts _ (List.mem_of_getElem? (i := 5) rfl)) (hts _ (List.mem_of_getElem? (i := 6) rfl)) (Nat.le_of_ble_eq_true rfl) (Nat.le_of_ble_eq_true rfl) (Nat.le_of_ble_eq_true rfl) (Nat.le_of_ble_eq_true rfl) dX2_adjustWeight_41 ?_
    refine va_iast hx hb hK hP hD hS 3 0 rfl rfl (hh) dX2_adjustWeight_44 (fun H locs hP hD hS => ?_)
    have hP : va_P D vwCl (moW cI cL h0 h1 h2 h3 (os_we o (upd (o_we o) ph.toNatClampNeg (if (60000 : Int32) < ((((o_we o) ph.toNatClampNeg) + (((o_we o) ph.toNatClampNeg) / 16)) + 1) then (60000 : Int32) else ((((o_we o) ph.toNatClampNeg) + (((o_we o) ph.toNatClampNeg) / 16)) + 1))))) H := hP
    have hD : va_D A (moW cI cL h0 h1 h2 h3 (os_we o (upd (o_we o) ph.toNatClampNeg (if (60000 : Int32) < ((((o_we o) ph.toNatClampNeg) + (((o_we o) ph.toNatClampNeg) / 16)) + 1) then (60000 : Int32) else ((((o_we o) ph.toNatClampNeg) + (((o_we o) ph.toNatClampNeg) / 16)) + 1))))) := hD
    refine lv_goto (tgt := 74) hx hb dX2_adjustWeight_45 (by decide) ?_
    have hw9 : (moW cI cL h0 h1 h2 h3 (os_we o (upd (o_we o) ph.toNatClampNeg (if (60000 : Int32) < ((((o_we o) ph.toNatClampNeg) + (((o_we o) ph.toNatClampNeg) / 16)) + 1) then (60000 : Int32) else ((((o_we o) ph.toNatClampNeg) + (((o_we o) ph.toNatClampNeg) / 16)) + 1))))) = (moW cI cL h0 h1 h2 h3 (o_aw ph z mq o)) := by (try unfold o_aw); (try unfold wInc); (try unfold wDec); (try rw [if_neg c_1]); try rfl
    rw [hw9] at hP hD
    exact W.vret hx hb hr (fun t ht hW => ⟨⟨(), rfl, trivial, by rw [ht]; exact hP, hD⟩, hS.F ht⟩) hS.2.2 dX2_adjustWeight_74

set_option maxHeartbeats 4000000 in
set_option maxRecDepth 100000 in
theorem c_X2_adjustCounter (l : Launch) (D : va_G) (cI cL cM : ClassId) (A : Nat → Prop) (h0 h1 h2 h3 : Nat) (o : Mo) (z : Int32) (hp : vp_in (o_pl o) 512) : mV l yX2_adjustCounter wsX2_adjustCounter ({ frames := 0, cells := 0, slots := 0, locals := 0 }) D (tB cI cL cM) A [.ref h0, .int z] (moW cI cL h0 h1 h2 h3 o) (moW cI cL h0 h1 h2 h3 (o_ac z o)) := by
  refine Met.ofW (cc := cX2_adjustCounter) (maxL := 3) (ret := none) (by decide) rfl ?_
  intro p e s m args below meth c s₁ B hml hv
  obtain ⟨rfl, hP, hE, hD, hA⟩ := hv
  have hK := hE.1
  have hx := B.exec
  have hb := B.bytes
  have hr := B.returns
  have hts := atoms_spec (ws := wsX2_adjustCounter) B.pre
  have hown : s.vm.findClass RX2 = some m.cls := findClass_of_methodNamed B.named
  have hlocks := B.notSynchronized
  have hS : va_S A s.heap s.heap [] := va_S.rf
  have hl := lv_entry ([.ref h0, .int z]) (n := 3) (Nat.le_of_ble_eq_true rfl)
  rw [lg_entry_eq]
  generalize (lg_sl ([.ref h0, .int z]) ++ List.replicate (3 - (lg_sl ([.ref h0, .int z])).length) Slot.unset).toArray = ls at hl ⊢
  have hl : lv_has ls 3 [(0, .ref h0), (1, .int z)] := hl
  refine lv_aload_n hx hb dX2_adjustCounter_0 rfl (lv_at hl 0 rfl) ?_
  refine va_get (D := D) (ci := 2) (v := .ref h1) (C := RX2) (T := TX2) (N := 10) hx hb hts (fun _ h => List.mem_cons_of_mem _ (List.mem_append_right _ h)) hown hK hP 0 rfl rfl 3 (by decide) (hts _ (List.mem_of_getElem? (i := 1) rfl)) (fun _ h9 => h9) rfl dX2_adjustCounter_1 ?_
  refine lv_aload_n hx hb dX2_adjustCounter_4 rfl (lv_at hl 0 rfl) ?_
  refine va_get (D := D) (ci := 2) (v := .int (o_pl o)) (C := RX2) (T := TX2) (N := 10) hx hb hts (fun _ h => List.mem_cons_of_mem _ (List.mem_append_right _ h)) hown hK hP 0 rfl rfl 9 (by decide) (hts _ (List.mem_of_getElem? (i := 2) rfl)) (fun _ h9 => h9) rfl dX2_adjustCounter_5 ?_
  refine va_iald hx hb hK hP 1 0 rfl rfl (hp) dX2_adjustCounter_8 ?_
  refine lv_istore_n (lv' := [(2, .int ((o_co o) (o_pl o).toNatClampNeg)), (0, .ref h0), (1, .int z)]) hx hb dX2_adjustCounter_9 rfl hl (by decide) rfl (fun ls hl => ?_)
  refine lv_aload_n hx hb dX2_adjustCounter_10 rfl (lv_at hl 1 rfl) ?_
  refine va_get (D := D) (ci := 2) (v := .ref h1) (C := RX2) (T := TX2) (N := 10) hx hb hts (fun _ h => List.mem_cons_of_mem _ (List.mem_append_right _ h)) hown hK hP 0 rfl rfl 3 (by decide) (hts _ (List.mem_of_getElem? (i := 1) rfl)) (fun _ h9 => h9) rfl dX2_adjustCounter_11 ?_
  refine lv_aload_n hx hb dX2_adjustCounter_14 rfl (lv_at hl 1 rfl) ?_
  refine va_get (D := D) (ci := 2) (v := .int (o_pl o)) (C := RX2) (T := TX2) (N := 10) hx hb hts (fun _ h => List.mem_cons_of_mem _ (List.mem_append_right _ h)) hown hK hP 0 rfl rfl 9 (by decide) (hts _ (List.mem_of_getElem? (i := 2) rfl)) (fun _ h9 => h9) rfl dX2_adjustCounter_15 ?_
  refine lv_iload_n hx hb dX2_adjustCounter_18 rfl (lv_at hl 2 rfl) ?_
  refine lv_if_eq (tgt := 37) hx hb dX2_adjustCounter_19 (by decide) (fun c_1 => ?_) (fun c_1 => ?_)
  · have c_1 : z = (0 : Int32) := c_1
    refine lv_iload_n hx hb dX2_adjustCounter_37 rfl (lv_at hl 0 rfl) ?_
    refine lv_iload_n hx hb dX2_adjustCounter_38 rfl (lv_at hl 0 rfl) ?_
    refine lv_aload_n hx hb dX2_adjustCounter_39 rfl (lv_at hl 1 rfl) ?_
    refine va_get (D := D) (ci := 2) (v := .int (o_rt o)) (C := RX2) (T := TX2) (N := 10) hx hb hts (fun _ h => List.mem_cons_of_mem _ (List.mem_append_right _ h)) hown hK hP 0 rfl rfl 1 (by decide) (hts _ (List.mem_of_getElem? (i := 3) rfl)) (fun _ h9 => h9) rfl dX2_adjustCounter_40 ?_
    refine lv_ishr hx hb dX2_adjustCounter_43 ?_
    refine lv_isub hx hb dX2_adjustCounter_44 ?_
    refine va_iast hx hb hK hP hD hS 1 0 rfl rfl (hp) dX2_adjustCounter_45 (fun H locs hP hD hS => ?_)
    have hP : va_P D vwCl (moW cI cL h0 h1 h2 h3 (os_co o (upd (o_co o) (o_pl o).toNatClampNeg (((o_co o) (o_pl o).toNatClampNeg) - (((o_co o) (o_pl o).toNatClampNeg) >>> ((o_rt o) &&& 31)))))) H := hP
    have hD : va_D A (moW cI cL h0 h1 h2 h3 (os_co o (upd (o_co o) (o_pl o).toNatClampNeg (((o_co o) (o_pl o).toNatClampNeg) - (((o_co o) (o_pl o).toNatClampNeg) >>> ((o_rt o) &&& 31)))))) := hD
    refine lv_aload_n hx hb dX2_adjustCounter_46 rfl (lv_at hl 1 rfl) ?_
    refine va_get (D := D) (ci := 2) (v := .ref h2) (C := RX2) (T := TX2) (N := 10) hx hb hts (fun _ h => List.mem_cons_of_mem _ (List.mem_append_right _ h)) hown hK hP 0 rfl rfl 4 (by decide) (hts _ (List.mem_of_getElem? (i := 4) rfl)) (fun _ h9 => h9) rfl dX2_adjustCounter_47 ?_
    refine lv_aload_n hx hb dX2_adjustCounter_50 rfl (lv_at hl 1 rfl) ?_
    refine va_get (D := D) (ci := 2) (v := .int (o_pl o)) (C := RX2) (T := TX2) (N := 10) hx hb hts (fun _ h => List.mem_cons_of_mem _ (List.mem_append_right _ h)) hown hK hP 0 rfl rfl 9 (by decide) (hts _ (List.mem_of_getElem? (i := 2) rfl)) (fun _ h9 => h9) rfl dX2_adjustCounter_51 ?_
    refine va_lald hx hb hK hP 2 1 rfl rfl (hp) dX2_adjustCounter_54 ?_
    refine lv_lconst (v := 0) hx hb dX2_adjustCounter_55 (by decide) ?_
    refine W.lcmp hx hb dX2_adjustCounter_56 ?_
    refine lv_if_eq (tgt := 87) hx hb dX2_adjustCounter_57 (by decide) (fun c_2 => ?_) (fun c_2 => ?_)
    · have c_2 : (lg_cmp ((o_se o) (o_pl o).toNatClampNeg) 0) = (0 : Int32) := c_2
      refine lv_aload_n hx hb dX2_adjustCounter_87 rfl (lv_at hl 1 rfl) ?_
      refine va_get (D := D) (ci := 2) (v := .ref h2) (C := RX2) (T := TX2) (N := 10) hx hb hts (fun _ h => List.mem_cons_of_mem _ (List.mem_append_right _ h)) hown hK hP 0 rfl rfl 4 (by decide) (hts _ (List.mem_of_getElem? (i := 4) rfl)) (fun _ h9 => h9) rfl dX2_adjustCounter_88 ?_
      refine lv_aload_n hx hb dX2_adjustCounter_91 rfl (lv_at hl 1 rfl) ?_
      refine va_get (D := D) (ci := 2) (v := .int (o_pl o)) (C := RX2) (T := TX2) (N := 10) hx hb hts (fun _ h => List.mem_cons_of_mem _ (List.mem_append_right _ h)) hown hK hP 0 rfl rfl 9 (by decide) (hts _ (List.mem_of_getElem? (i := 2) rfl)) (fun _ h9 => h9) rfl dX2_adjustCounter_92 ?_
      refine lv_aload_n hx hb dX2_adjustCounter_95 rfl (lv_at hl 1 rfl) ?_
      refine va_get (D := D) (ci := 2) (v := .long (o_si o)) (C := RX2) (T := TX2) (N := 10) hx hb hts (fun _ h => List.mem_cons_of_mem _ (List.mem_append_right _ h)) hown hK hP 0 rfl rfl 8 (by decide) (hts _ (List.mem_of_getElem? (i := 5) rfl)) (fun _ h9 => h9) rfl dX2_adjustCounter_96 ?_
      refine va_last hx hb hK hP hD hS 2 1 rfl rfl (hp) dX2_adjustCounter_99 (fun H locs hP hD hS => ?_)
      have hP : va_P D vwCl (moW cI cL h0 h1 h2 h3 (os_se (os_co o (upd (o_co o) (o_pl o).toNatClampNeg (((o_co o) (o_pl o).toNatClampNeg) - (((o_co o) (o_pl o).toNatClampNeg) >>> ((o_rt o) &&& 31))))) (vp_updL (o_se o) (o_pl o).toNatClampNeg (o_si o)))) H := hP
      have hD : va_D A (moW cI cL h0 h1 h2 h3 (os_se (os_co o (upd (o_co o) (o_pl o).toNatClampNeg (((o_co o) (o_pl o).toNatClampNeg) - (((o_co o) (o_pl o).toNatClampNeg) >>> ((o_rt o) &&& 31))))) (vp_updL (o_se o) (o_pl o).toNatClampNeg (o_si o)))) := hD
      have hw9 : (moW cI cL h0 h1 h2 h3 (os_se (os_co o (upd (o_co o) (o_pl o).toNatClampNeg (((o_co o) (o_pl o).toNatClampNeg) - (((o_co o) (o_pl o).toNatClampNeg) >>> ((o_rt o) &&& 31))))) (vp_updL (o_se o) (o_pl o).toNatClampNeg (o_si o)))) = (moW cI cL h0 h1 h2 h3 (o_ac z o)) := by (try unfold o_ac); (try unfold o_a0); (try unfold cDn); (try unfold cUp); (try unfold o_gs); (try rw [if_pos c_1]); (try rw [if_pos c_2]); try rfl
      rw [hw9] at hP hD
      exact W.vret hx hb hr (fun t ht hW => ⟨⟨(), rfl, trivial, by rw [ht]; exact hP, hD⟩, hS.F ht⟩) hS.2.2 dX2_adjustCounter_100
    · have c_2 : ¬ (lg_cmp ((o_se o) (o_pl o).toNatClampNeg) 0) = (0 : Int32) := c_2
      refine lv_aload_n hx hb dX2_adjustCounter_60 rfl (lv_at hl 1 rfl) ?_
      refine va_get (D := D) (ci := 2) (v := .ref h2) (C := RX2) (T := TX2) (N := 10) hx hb hts (fun _ h => List.mem_cons_of_mem _ (List.mem_append_right _ h)) hown hK hP 0 rfl rfl 4 (by decide) (hts _ (List.mem_of_getElem? (i := 4) rfl)) (fun _ h9 => h9) rfl dX2_adjustCounter_61 ?_
      refine lv_aload_n hx hb dX2_adjustCounter_64 rfl (lv_at hl 1 rfl) ?_
      refine va_get (D := D) (ci := 2) (v := .int (o_pl o)) (C := RX2) (T := TX2) (N := 10) hx hb hts (fun _ h => List.mem_cons_of_mem _ (List.mem_append_right _ h)) hown hK hP 0 rfl rfl 9 (by decide) (hts _ (List.mem_of_getElem? (i := 2) rfl)) (fun _ h9 => h9) rfl dX2_adjustCounter_65 ?_
      refine va_lald hx hb hK hP 2 1 rfl rfl (hp) dX2_adjustCounter_68 ?_
      refine lv_aload_n hx hb dX2_adjustCounter_69 rfl (lv_at hl 1 rfl) ?_
      refine va_get (D := D) (ci := 2) (v := .long (o_si o)) (C := RX2) (T := TX2) (N := 10) hx hb hts (fun _ h => List.mem_cons_of_mem _ (List.mem_append_right _ h)) hown hK hP 0 rfl rfl 8 (by decide) (hts _ (List.mem_of_getElem? (i := 5) rfl)) (fun _ h9 => h9) rfl dX2_adjustCounter_70 ?_
      refine W.lcmp hx hb dX2_adjustCounter_73 ?_
      refine lv_if_eq (tgt := 87) hx hb dX2_adjustCounter_74 (by decide) (fun c_3 => ?_) (fun c_3 => ?_)
      · have c_3 : (lg_cmp ((o_se o) (o_pl o).toNatClampNeg) (o_si o)) = (0 : Int32) := c_3
        refine lv_aload_n hx hb dX2_adjustCounter_87 rfl (lv_at hl 1 rfl) ?_
        refine va_get (D := D) (ci := 2) (v := .ref h2) (C := RX2) (T := TX2) (N := 10) hx hb hts (fun _ h => List.mem_cons_of_mem _ (List.mem_append_right _ h)) hown hK hP 0 rfl rfl 4 (by decide) (hts _ (List.mem_of_getElem? (i := 4) rfl)) (fun _ h9 => h9) rfl dX2_adjustCounter_88 ?_
        refine lv_aload_n hx hb dX2_adjustCounter_91 rfl (lv_at hl 1 rfl) ?_
        refine va_get (D := D) (ci := 2) (v := .int (o_pl o)) (C := RX2) (T := TX2) (N := 10) hx hb hts (fun _ h => List.mem_cons_of_mem _ (List.mem_append_right _ h)) hown hK hP 0 rfl rfl 9 (by decide) (hts _ (List.mem_of_getElem? (i := 2) rfl)) (fun _ h9 => h9) rfl dX2_adjustCounter_92 ?_
        refine lv_aload_n hx hb dX2_adjustCounter_95 rfl (lv_at hl 1 rfl) ?_
        refine va_get (D := D) (ci := 2) (v := .long (o_si o)) (C := RX2) (T := TX2) (N := 10) hx hb hts (fun _ h => List.mem_cons_of_mem _ (List.mem_append_right _ h)) hown hK hP 0 rfl rfl 8 (by decide) (hts _ (List.mem_of_getElem? (i := 5) rfl)) (fun _ h9 => h9) rfl dX2_adjustCounter_96 ?_
        refine va_last hx hb hK hP hD hS 2 1 rfl rfl (hp) dX2_adjustCounter_99 (fun H locs hP hD hS => ?_)
        have hP : va_P D vwCl (moW cI cL h0 h1 h2 h3 (os_se (os_co o (upd (o_co o) (o_pl o).toNatClampNeg (((o_co o) (o_pl o).toNatClampNeg) - (((o_co o) (o_pl o).toNatClampNeg) >>> ((o_rt o) &&& 31))))) (vp_updL (o_se o) (o_pl o).toNatClampNeg (o_si o)))) H := hP
        have hD : va_D A (moW cI cL h0 h1 h2 h3 (os_se (os_co o (upd (o_co o) (o_pl o).toNatClampNeg (((o_co o) (o_pl o).toNatClampNeg) - (((o_co o) (o_pl o).toNatClampNeg) >>> ((o_rt o) &&& 31))))) (vp_updL (o_se o) (o_pl o).toNatClampNeg (o_si o)))) := hD
        have hw9 : (moW cI cL h0 h1 h2 h3 (os_se (os_co o (upd (o_co o) (o_pl o).toNatClampNeg (((o_co o) (o_pl o).toNatClampNeg) - (((o_co o) (o_pl o).toNatClampNeg) >>> ((o_rt o) &&& 31))))) (vp_updL (o_se o) (o_pl o).toNatClampNeg (o_si o)))) = (moW cI cL h0 h1 h2 h3 (o_ac z o)) := by (try unfold o_ac); (try unfold o_a0); (try unfold cDn); (try unfold cUp); (try unfold o_gs); (try rw [if_pos c_1]); (try rw [if_neg c_2]); (try rw [if_pos c_3]); try rfl
        rw [hw9] at hP hD
        exact W.vret hx hb hr (fun t ht hW => ⟨⟨(), rfl, trivial, by rw [ht]; exact hP, hD⟩, hS.F ht⟩) hS.2.2 dX2_adjustCounter_100
      · have c_3 : ¬ (lg_cmp ((o_se o) (o_pl o).toNatClampNeg) (o_si o)) = (0 : Int32) := c_3
        refine lv_aload_n hx hb dX2_adjustCounter_77 rfl (lv_at hl 1 rfl) ?_
        refine lv_dup hx hb dX2_adjustCounter_78 rfl ?_
        refine va_get (D := D) (ci := 2) (v := .int (o_cn o)) (C := RX2) (T := TX2) (N := 10) hx hb hts (fun _ h => List.mem_cons_of_mem _ (List.mem_append_right _ h)) hown hK hP 0 rfl rfl 6 (by decide) (hts _ (List.mem_of_getElem? (i := 6) rfl)) (fun _ h9 => h9) rfl dX2_adjustCounter_79 ?_
        refine lv_iconst (v := 1) hx hb dX2_adjustCounter_82 (by decide) ?_
        refine lv_iadd hx hb dX2_adjustCounter_83 ?_
        refine va_put (D := D) (ci := 2) (v := .int ((o_cn o) + 1)) (ty := .int) (C := RX2) (T := TX2) (N := 10) hx hb hts (fun _ h => List.mem_cons_of_mem _ (List.mem_append_right _ h)) tyX2 tyX2_ok nmX2 hown hK hP hD hS 0 rfl rfl 6 (by decide) (hts _ (List.mem_of_getElem? (i := 6) rfl)) (fun _ h9 => h9) rfl (by decide +kernel) rfl rfl (Nat.le_of_ble_eq_true rfl) dX2_adjustCounter_84 (fun H locs hP hD hS => ?_)
        have hP : va_P D vwCl (moW cI cL h0 h1 h2 h3 (os_cn (os_co o (upd (o_co o) (o_pl o).toNatClampNeg (((o_co o) (o_pl o).toNatClampNeg) - (((o_co o) (o_pl o).toNatClampNeg) >>> ((o_rt o) &&& 31))))) ((o_cn o) + 1))) H := hP
        have hD : va_D A (moW cI cL h0 h1 h2 h3 (os_cn (os_co o (upd (o_co o) (o_pl o).toNatClampNeg (((o_co o) (o_pl o).toNatClampNeg) - (((o_co o) (o_pl o).toNatClampNeg) >>> ((o_rt o) &&& 31))))) ((o_cn o) + 1))) := hD
        refine lv_aload_n hx hb dX2_adjustCounter_87 rfl (lv_at hl 1 rfl) ?_
        refine va_get (D := D) (ci := 2) (v := .ref h2) (C := RX2) (T := TX2) (N := 10) hx hb hts (fun _ h => List.mem_cons_of_mem _ (List.mem_append_right _ h)) hown hK hP 0 rfl rfl 4 (by decide) (hts _ (List.mem_of_getElem? (i := 4) rfl)) (fun _ h9 => h9) rfl dX2_adjustCounter_88 ?_
        refine lv_aload_n hx hb dX2_adjustCounter_91 rfl (lv_at hl 1 rfl) ?_
        refine va_get (D := D) (ci := 2) (v := .int (o_pl o)) (C := RX2) (T := TX2) (N := 10) hx hb hts (fun _ h => List.mem_cons_of_mem _ (List.mem_append_right _ h)) hown hK hP 0 rfl rfl 9 (by decide) (hts _ (List.mem_of_getElem? (i := 2) rfl)) (fun _ h9 => h9) rfl dX2_adjustCounter_92 ?_
        refine lv_aload_n hx hb dX2_adjustCounter_95 rfl (lv_at hl 1 rfl) ?_
        refine va_get (D := D) (ci := 2) (v := .long (o_si o)) (C := RX2) (T := TX2) (N := 10) hx hb hts (fun _ h => List.mem_cons_of_mem _ (List.mem_append_right _ h)) hown hK hP 0 rfl rfl 8 (by decide) (hts _ (List.mem_of_getElem? (i := 5) rfl)) (fun _ h9 => h9) rfl dX2_adjustCounter_96 ?_
        refine va_last hx hb hK hP hD hS 2 1 rfl rfl (hp) dX2_adjustCounter_99 (fun H locs hP hD hS => ?_)
        have hP : va_P D vwCl (moW cI cL h0 h1 h2 h3 (os_cn (os_se (os_co o (upd (o_co o) (o_pl o).toNatClampNeg (((o_co o) (o_pl o).toNatClampNeg) - (((o_co o) (o_pl o).toNatClampNeg) >>> ((o_rt o) &&& 31))))) (vp_updL (o_se o) (o_pl o).toNatClampNeg (o_si o))) ((o_cn o) + 1))) H := hP
        have hD : va_D A (moW cI cL h0 h1 h2 h3 (os_cn (os_se (os_co o (upd (o_co o) (o_pl o).toNatClampNeg (((o_co o) (o_pl o).toNatClampNeg) - (((o_co o) (o_pl o).toNatClampNeg) >>> ((o_rt o) &&& 31))))) (vp_updL (o_se o) (o_pl o).toNatClampNeg (o_si o))) ((o_cn o) + 1))) := hD
        have hw9 : (moW cI cL h0 h1 h2 h3 (os_cn (os_se (os_co o (upd (o_co o) (o_pl o).toNatClampNeg (((o_co o) (o_pl o).toNatClampNeg) - (((o_co o) (o_pl o).toNatClampNeg) >>> ((o_rt o) &&& 31))))) (vp_updL (o_se o) (o_pl o).toNatClampNeg (o_si o))) ((o_cn o) + 1))) = (moW cI cL h0 h1 h2 h3 (o_ac z o)) := by (try unfold o_ac); (try unfold o_a0); (try unfold cDn); (try unfold cUp); (try unfold o_gs); (try rw [if_pos c_1]); (try rw [if_neg c_2]); (try rw [if_neg c_3]); try rfl
        rw [hw9] at hP hD
        exact W.vret hx hb hr (fun t ht hW => ⟨⟨(), rfl, trivial, by rw [ht]; exact hP, hD⟩, hS.F ht⟩) hS.2.2 dX2_adjustCounter_100
  · have c_1 : ¬ z = (0 : Int32) := c_1
    refine lv_iload_n hx hb dX2_adjustCounter_22 rfl (lv_at hl 0 rfl) ?_
    refine lv_sipush (v := 4096) hx hb dX2_adjustCounter_23 (by decide) ?_
    refine lv_iload_n hx hb dX2_adjustCounter_26 rfl (lv_at hl 0 rfl) ?_
    refine lv_isub hx hb dX2_adjustCounter_27 ?_
    refine lv_aload_n hx hb dX2_adjustCounter_28 rfl (lv_at hl 1 rfl) ?_
    refine va_get (D := D) (ci := 2) (v := .int (o_rt o)) (C := RX2) (T := TX2) (N := 10) hx hb hts (fun _ h => List.mem_cons_of_mem _ (List.mem_append_right _ h)) hown hK hP 0 rfl rfl 1 (by decide) (hts _ (List.mem_of_getElem? (i := 3) rfl)) (fun _ h9 => h9) rfl dX2_adjustCounter_29 ?_
    refine lv_ishr hx hb dX2_adjustCounter_32 ?_
    refine lv_iadd hx hb dX2_adjustCounter_33 ?_
    refine lv_goto (tgt := 45) hx hb dX2_adjustCounter_34 (by decide) ?_
    refine va_iast hx hb hK hP hD hS 1 0 rfl rfl (hp) dX2_adjustCounter_45 (fun H locs hP hD hS => ?_)
    have hP : va_P D vwCl (moW cI cL h0 h1 h2 h3 (os_co o (upd (o_co o) (o_pl o).toNatClampNeg (((o_co o) (o_pl o).toNatClampNeg) + ((4096 - ((o_co o) (o_pl o).toNatClampNeg)) >>> ((o_rt o) &&& 31)))))) H := hP
    have hD : va_D A (moW cI cL h0 h1 h2 h3 (os_co o (upd (o_co o) (o_pl o).toNatClampNeg (((o_co o) (o_pl o).toNatClampNeg) + ((4096 - ((o_co o) (o_pl o).toNatClampNeg)) >>> ((o_rt o) &&& 31)))))) := hD
    refine lv_aload_n hx hb dX2_adjustCounter_46 rfl (lv_at hl 1 rfl) ?_
    refine va_get (D := D) (ci := 2) (v := .ref h2) (C := RX2) (T := TX2) (N := 10) hx hb hts (fun _ h => List.mem_cons_of_mem _ (List.mem_append_right _ h)) hown hK hP 0 rfl rfl 4 (by decide) (hts _ (List.mem_of_getElem? (i := 4) rfl)) (fun _ h9 => h9) rfl dX2_adjustCounter_47 ?_
    refine lv_aload_n hx hb dX2_adjustCounter_50 rfl (lv_at hl 1 rfl) ?_
    refine va_get (D := D) (ci := 2) (v := .int (o_pl o)) (C := RX2) (T := TX2) (N := 10) hx hb hts (fun _ h => List.mem_cons_of_mem _ (List.mem_append_right _ h)) hown hK hP 0 rfl rfl 9 (by decide) (hts _ (List.mem_of_getElem? (i := 2) rfl)) (fun _ h9 => h9) rfl dX2_adjustCounter_51 ?_
    refine va_lald hx hb hK hP 2 1 rfl rfl (hp) dX2_adjustCounter_54 ?_
    refine lv_lconst (v := 0) hx hb dX2_adjustCounter_55 (by decide) ?_
    refine W.lcmp hx hb dX2_adjustCounter_56 ?_
    refine lv_if_eq (tgt := 87) hx hb dX2_adjustCounter_57 (by decide) (fun c_4 => ?_) (fun c_4 => ?_)
    · have c_4 : (lg_cmp ((o_se o) (o_pl o).toNatClampNeg) 0) = (0 : Int32) := c_4
      refine lv_aload_n hx hb dX2_adjustCounter_87 rfl (lv_at hl 1 rfl) ?_
      refine va_get (D := D) (ci := 2) (v := .ref h2) (C := RX2) (T := TX2) (N := 10) hx hb hts (fun _ h => List.mem_cons_of_mem _ (List.mem_append_right _ h)) hown hK hP 0 rfl rfl 4 (by decide) (hts _ (List.mem_of_getElem? (i := 4) rfl)) (fun _ h9 => h9) rfl dX2_adjustCounter_88 ?_
      refine lv_aload_n hx hb dX2_adjustCounter_91 rfl (lv_at hl 1 rfl) ?_
      refine va_get (D := D) (ci := 2) (v := .int (o_pl o)) (C := RX2) (T := TX2) (N := 10) hx hb hts (fun _ h => List.mem_cons_of_mem _ (List.mem_append_right _ h)) hown hK hP 0 rfl rfl 9 (by decide) (hts _ (List.mem_of_getElem? (i := 2) rfl)) (fun _ h9 => h9) rfl dX2_adjustCounter_92 ?_
      refine lv_aload_n hx hb dX2_adjustCounter_95 rfl (lv_at hl 1 rfl) ?_
      refine va_get (D := D) (ci := 2) (v := .long (o_si o)) (C := RX2) (T := TX2) (N := 10) hx hb hts (fun _ h => List.mem_cons_of_mem _ (List.mem_append_right _ h)) hown hK hP 0 rfl rfl 8 (by decide) (hts _ (List.mem_of_getElem? (i := 5) rfl)) (fun _ h9 => h9) rfl dX2_adjustCounter_96 ?_
      refine va_last hx hb hK hP hD hS 2 1 rfl rfl (hp) dX2_adjustCounter_99 (fun H locs hP hD hS => ?_)
      have hP : va_P D vwCl (moW cI cL h0 h1 h2 h3 (os_se (os_co o (upd (o_co o) (o_pl o).toNatClampNeg (((o_co o) (o_pl o).toNatClampNeg) + ((4096 - ((o_co o) (o_pl o).toNatClampNeg)) >>> ((o_rt o) &&& 31))))) (vp_updL (o_se o) (o_pl o).toNatClampNeg (o_si o)))) H := hP
      have hD : va_D A (moW cI cL h0 h1 h2 h3 (os_se (os_co o (upd (o_co o) (o_pl o).toNatClampNeg (((o_co o) (o_pl o).toNatClampNeg) + ((4096 - ((o_co o) (o_pl o).toNatClampNeg)) >>> ((o_rt o) &&& 31))))) (vp_updL (o_se o) (o_pl o).toNatClampNeg (o_si o)))) := hD
      have hw9 : (moW cI cL h0 h1 h2 h3 (os_se (os_co o (upd (o_co o) (o_pl o).toNatClampNeg (((o_co o) (o_pl o).toNatClampNeg) + ((4096 - ((o_co o) (o_pl o).toNatClampNeg)) >>> ((o_rt o) &&& 31))))) (vp_updL (o_se o) (o_pl o).toNatClampNeg (o_si o)))) = (moW cI cL h0 h1 h2 h3 (o_ac z o)) := by (try unfold o_ac); (try unfold o_a0); (try unfold cDn); (try unfold cUp); (try unfold o_gs); (try rw [if_neg c_1]); (try rw [if_pos c_4]); try rfl
      rw [hw9] at hP hD
      exact W.vret hx hb hr (fun t ht hW => ⟨⟨(), rfl, trivial, by rw [ht]; exact hP, hD⟩, hS.F ht⟩) hS.2.2 dX2_adjustCounter_100
    · have c_4 : ¬ (lg_cmp ((o_se o) (o_pl o).toNatClampNeg) 0) = (0 : Int32) := c_4
      refine lv_aload_n hx hb dX2_adjustCounter_60 rfl (lv_at hl 1 rfl) ?_
      refine va_get (D := D) (ci := 2) (v := .ref h2) (C := RX2) (T := TX2) (N := 10) hx hb hts (fun _ h => List.mem_cons_of_mem _ (List.mem_append_right _ h)) hown hK hP 0 rfl rfl 4 (by decide) (hts _ (List.mem_of_getElem? (i := 4) rfl)) (fun _ h9 => h9) rfl dX2_adjustCounter_61 ?_
      refine lv_aload_n hx hb dX2_adjustCounter_64 rfl (lv_at hl 1 rfl) ?_
      refine va_get (D := D) (ci := 2) (v := .int (o_pl o)) (C := RX2) (T := TX2) (N := 10) hx hb hts (fun _ h => List.mem_cons_of_mem _ (List.mem_append_right _ h)) hown hK hP 0 rfl rfl 9 (by decide) (hts _ (List.mem_of_getElem? (i := 2) rfl)) (fun _ h9 => h9) rfl dX2_adjustCounter_65 ?_
      refine va_lald hx hb hK hP 2 1 rfl rfl (hp) dX2_adjustCounter_68 ?_
      refine lv_aload_n hx hb dX2_adjustCounter_69 rfl (lv_at hl 1 rfl) ?_
      refine va_get (D := D) (ci := 2) (v := .long (o_si o)) (C := RX2) (T := TX2) (N := 10) hx hb hts (fun _ h => List.mem_cons_of_mem _ (List.mem_append_right _ h)) hown hK hP 0 rfl rfl 8 (by decide) (hts _ (List.mem_of_getElem? (i := 5) rfl)) (fun _ h9 => h9) rfl dX2_adjustCounter_70 ?_
      refine W.lcmp hx hb dX2_adjustCounter_73 ?_
      refine lv_if_eq (tgt := 87) hx hb dX2_adjustCounter_74 (by decide) (fun c_5 => ?_) (fun c_5 => ?_)
      · have c_5 : (lg_cmp ((o_se o) (o_pl o).toNatClampNeg) (o_si o)) = (0 : Int32) := c_5
        refine lv_aload_n hx hb dX2_adjustCounter_87 rfl (lv_at hl 1 rfl) ?_
        refine va_get (D := D) (ci := 2) (v := .ref h2) (C := RX2) (T := TX2) (N := 10) hx hb hts (fun _ h => List.mem_cons_of_mem _ (List.mem_append_right _ h)) hown hK hP 0 rfl rfl 4 (by decide) (hts _ (List.mem_of_getElem? (i := 4) rfl)) (fun _ h9 => h9) rfl dX2_adjustCounter_88 ?_
        refine lv_aload_n hx hb dX2_adjustCounter_91 rfl (lv_at hl 1 rfl) ?_
        refine va_get (D := D) (ci := 2) (v := .int (o_pl o)) (C := RX2) (T := TX2) (N := 10) hx hb hts (fun _ h => List.mem_cons_of_mem _ (List.mem_append_right _ h)) hown hK hP 0 rfl rfl 9 (by decide) (hts _ (List.mem_of_getElem? (i := 2) rfl)) (fun _ h9 => h9) rfl dX2_adjustCounter_92 ?_
        refine lv_aload_n hx hb dX2_adjustCounter_95 rfl (lv_at hl 1 rfl) ?_
        refine va_get (D := D) (ci := 2) (v := .long (o_si o)) (C := RX2) (T := TX2) (N := 10) hx hb hts (fun _ h => List.mem_cons_of_mem _ (List.mem_append_right _ h)) hown hK hP 0 rfl rfl 8 (by decide) (hts _ (List.mem_of_getElem? (i := 5) rfl)) (fun _ h9 => h9) rfl dX2_adjustCounter_96 ?_
        refine va_last hx hb hK hP hD hS 2 1 rfl rfl (hp) dX2_adjustCounter_99 (fun H locs hP hD hS => ?_)
        have hP : va_P D vwCl (moW cI cL h0 h1 h2 h3 (os_se (os_co o (upd (o_co o) (o_pl o).toNatClampNeg (((o_co o) (o_pl o).toNatClampNeg) + ((4096 - ((o_co o) (o_pl o).toNatClampNeg)) >>> ((o_rt o) &&& 31))))) (vp_updL (o_se o) (o_pl o).toNatClampNeg (o_si o)))) H := hP
        have hD : va_D A (moW cI cL h0 h1 h2 h3 (os_se (os_co o (upd (o_co o) (o_pl o).toNatClampNeg (((o_co o) (o_pl o).toNatClampNeg) + ((4096 - ((o_co o) (o_pl o).toNatClampNeg)) >>> ((o_rt o) &&& 31))))) (vp_updL (o_se o) (o_pl o).toNatClampNeg (o_si o)))) := hD
        have hw9 : (moW cI cL h0 h1 h2 h3 (os_se (os_co o (upd (o_co o) (o_pl o).toNatClampNeg (((o_co o) (o_pl o).toNatClampNeg) + ((4096 - ((o_co o) (o_pl o).toNatClampNeg)) >>> ((o_rt o) &&& 31))))) (vp_updL (o_se o) (o_pl o).toNatClampNeg (o_si o)))) = (moW cI cL h0 h1 h2 h3 (o_ac z o)) := by (try unfold o_ac); (try unfold o_a0); (try unfold cDn); (try unfold cUp); (try unfold o_gs); (try rw [if_neg c_1]); (try rw [if_neg c_4]); (try rw [if_pos c_5]); try rfl
        rw [hw9] at hP hD
        exact W.vret hx hb hr (fun t ht hW => ⟨⟨(), rfl, trivial, by rw [ht]; exact hP, hD⟩, hS.F ht⟩) hS.2.2 dX2_adjustCounter_100
      · have c_5 : ¬ (lg_cmp ((o_se o) (o_pl o).toNatClampNeg) (o_si o)) = (0 : Int32) := c_5
        refine lv_aload_n hx hb dX2_adjustCounter_77 rfl (lv_at hl 1 rfl) ?_
        refine lv_dup hx hb dX2_adjustCounter_78 rfl ?_
        refine va_get (D := D) (ci := 2) (v := .int (o_cn o)) (C := RX2) (T := TX2) (N := 10) hx hb hts (fun _ h => List.mem_cons_of_mem _ (List.mem_append_right _ h)) hown hK hP 0 rfl rfl 6 (by decide) (hts _ (List.mem_of_getElem? (i := 6) rfl)) (fun _ h9 => h9) rfl dX2_adjustCounter_79 ?_
        refine lv_iconst (v := 1) hx hb dX2_adjustCounter_82 (by decide) ?_
        refine lv_iadd hx hb dX2_adjustCounter_83 ?_
        refine va_put (D := D) (ci := 2) (v := .int ((o_cn o) + 1)) (ty := .int) (C := RX2) (T := TX2) (N := 10) hx hb hts (fun _ h => List.mem_cons_of_mem _ (List.mem_append_right _ h)) tyX2 tyX2_ok nmX2 hown hK hP hD hS 0 rfl rfl 6 (by decide) (hts _ (List.mem_of_getElem? (i := 6) rfl)) (fun _ h9 => h9) rfl (by decide +kernel) rfl rfl (Nat.le_of_ble_eq_true rfl) dX2_adjustCounter_84 (fun H locs hP hD hS => ?_)
        have hP : va_P D vwCl (moW cI cL h0 h1 h2 h3 (os_cn (os_co o (upd (o_co o) (o_pl o).toNatClampNeg (((o_co o) (o_pl o).toNatClampNeg) + ((4096 - ((o_co o) (o_pl o).toNatClampNeg)) >>> ((o_rt o) &&& 31))))) ((o_cn o) + 1))) H := hP
        have hD : va_D A (moW cI cL h0 h1 h2 h3 (os_cn (os_co o (upd (o_co o) (o_pl o).toNatClampNeg (((o_co o) (o_pl o).toNatClampNeg) + ((4096 - ((o_co o) (o_pl o).toNatClampNeg)) >>> ((o_rt o) &&& 31))))) ((o_cn o) + 1))) := hD
        refine lv_aload_n hx hb dX2_adjustCounter_87 rfl (lv_at hl 1 rfl) ?_
        refine va_get (D := D) (ci := 2) (v := .ref h2) (C := RX2) (T := TX2) (N := 10) hx hb hts (fun _ h => List.mem_cons_of_mem _ (List.mem_append_right _ h)) hown hK hP 0 rfl rfl 4 (by decide) (hts _ (List.mem_of_getElem? (i := 4) rfl)) (fun _ h9 => h9) rfl dX2_adjustCounter_88 ?_
        refine lv_aload_n hx hb dX2_adjustCounter_91 rfl (lv_at hl 1 rfl) ?_
        refine va_get (D := D) (ci := 2) (v := .int (o_pl o)) (C := RX2) (T := TX2) (N := 10) hx hb hts (fun _ h => List.mem_cons_of_mem _ (List.mem_append_right _ h)) hown hK hP 0 rfl rfl 9 (by decide) (hts _ (List.mem_of_getElem? (i := 2) rfl)) (fun _ h9 => h9) rfl dX2_adjustCounter_92 ?_
        refine lv_aload_n hx hb dX2_adjustCounter_95 rfl (lv_at hl 1 rfl) ?_
        refine va_get (D := D) (ci := 2) (v := .long (o_si o)) (C := RX2) (T := TX2) (N := 10) hx hb hts (fun _ h => List.mem_cons_of_mem _ (List.mem_append_right _ h)) hown hK hP 0 rfl rfl 8 (by decide) (hts _ (List.mem_of_getElem? (i := 5) rfl)) (fun _ h9 => h9) rfl dX2_adjustCounter_96 ?_
        refine va_last hx hb hK hP hD hS 2 1 rfl rfl (hp) dX2_adjustCounter_99 (fun H locs hP hD hS => ?_)
        have hP : va_P D vwCl (moW cI cL h0 h1 h2 h3 (os_cn (os_se (os_co o (upd (o_co o) (o_pl o).toNatClampNeg (((o_co o) (o_pl o).toNatClampNeg) + ((4096 - ((o_co o) (o_pl o).toNatClampNeg)) >>> ((o_rt o) &&& 31))))) (vp_updL (o_se o) (o_pl o).toNatClampNeg (o_si o))) ((o_cn o) + 1))) H := hP
        have hD : va_D A (moW cI cL h0 h1 h2 h3 (os_cn (os_se (os_co o (upd (o_co o) (o_pl o).toNatClampNeg (((o_co o) (o_pl o).toNatClampNeg) + ((4096 - ((o_co o) (o_pl o).toNatClampNeg)) >>> ((o_rt o) &&& 31))))) (vp_updL (o_se o) (o_pl o).toNatClampNeg (o_si o))) ((o_cn o) + 1))) := hD
        have hw9 : (moW cI cL h0 h1 h2 h3 (os_cn (os_se (os_co o (upd (o_co o) (o_pl o).toNatClampNeg (((o_co o) (o_pl o).toNatClampNeg) + ((4096 - ((o_co o) (o_pl o).toNatClampNeg)) >>> ((o_rt o) &&& 31))))) (vp_updL (o_se o) (o_pl o).toNatClampNeg (o_si o))) ((o_cn o) + 1))) = (moW cI cL h0 h1 h2 h3 (o_ac z o)) := by (try unfold o_ac); (try unfold o_a0); (try unfold cDn); (try unfold cUp); (try unfold o_gs); (try rw [if_neg c_1]); (try rw [if_neg c_4]); (try rw [if_neg c_5]); try rfl
        rw [hw9] at hP hD
        exact W.vret hx hb hr (fun t ht hW => ⟨⟨(), rfl, trivial, by rw [ht]; exact hP, hD⟩, hS.F ht⟩) hS.2.2 dX2_adjustCounter_100

abbrev OL : Type := Mo × (Nat → Int32)
def j_o (u : OL) : Mo := u.1
def js_o (u : OL) (x : Mo) : OL := (x, u.2)
def j_f (u : OL) : Nat → Int32 := u.2
def js_f (u : OL) (x : Nat → Int32) : OL := (u.1, x)
theorem j_o_o (u : OL) (x : Mo) : j_o (js_o u x) = x := rfl
theorem j_o_f (u : OL) (x : Nat → Int32) : j_o (js_f u x) = j_o u := rfl
theorem j_f_o (u : OL) (x : Mo) : j_f (js_o u x) = j_f u := rfl
theorem j_f_f (u : OL) (x : Nat → Int32) : j_f (js_f u x) = x := rfl
def olW (cI cL : ClassId) (h0 h1 h2 h3 g : Nat) (u : OL) : va_W := moW cI cL h0 h1 h2 h3 (j_o u) ++ [(g, .inl (cI, 3, .inl (j_f u)))]
set_option maxHeartbeats 4000000 in
set_option maxRecDepth 100000 in
theorem c_X2_readContext (l : Launch) (D : va_G) (cI cL cM : ClassId) (A : Nat → Prop) (h0 h1 h2 h3 g : Nat) (u : OL) : mV l yX2_readContext wsX2_readContext ({ frames := 0, cells := 0, slots := 0, locals := 0 }) D (tB cI cL cM) A [.ref h0, .ref g] (olW cI cL h0 h1 h2 h3 g u) (olW cI cL h0 h1 h2 h3 g (js_o u (o_ctx (j_f u) (j_o u)))) := by
  refine Met.ofW (cc := cX2_readContext) (maxL := 4) (ret := none) (by decide) rfl ?_
  intro p e s m args below meth c s₁ B hml hv
  obtain ⟨rfl, hP, hE, hD, hA⟩ := hv
  have hK := hE.1
  have hx := B.exec
  have hb := B.bytes
  have hr := B.returns
  have hts := atoms_spec (ws := wsX2_readContext) B.pre
  have hown : s.vm.findClass RX2 = some m.cls := findClass_of_methodNamed B.named
  have hlocks := B.notSynchronized
  have hS : va_S A s.heap s.heap [] := va_S.rf
  have hl := lv_entry ([.ref h0, .ref g]) (n := 4) (Nat.le_of_ble_eq_true rfl)
  rw [lg_entry_eq]
  generalize (lg_sl ([.ref h0, .ref g]) ++ List.replicate (4 - (lg_sl ([.ref h0, .ref g])).length) Slot.unset).toArray = ls at hl ⊢
  have hl : lv_has ls 4 [(0, .ref h0), (1, .ref g)] := hl
  refine lv_iconst (v := 0) hx hb dX2_readContext_0 (by decide) ?_
  refine lv_istore_n (lv' := [(2, .int 0), (0, .ref h0), (1, .ref g)]) hx hb dX2_readContext_1 rfl hl (by decide) rfl (fun ls hl => ?_)
  refine lv_iconst (v := 0) hx hb dX2_readContext_2 (by decide) ?_
  refine lv_istore_n (lv' := [(3, .int 0), (2, .int 0), (0, .ref h0), (1, .ref g)]) hx hb dX2_readContext_3 rfl hl (by decide) rfl (fun ls hl => ?_)
  refine lv_iload_n hx hb dX2_readContext_4 rfl (lv_at hl 0 rfl) ?_
  refine lv_aload_n hx hb dX2_readContext_5 rfl (lv_at hl 2 rfl) ?_
  refine va_get (D := D) (ci := 2) (v := .int (o_od (j_o u))) (C := RX2) (T := TX2) (N := 10) hx hb hts (fun _ h => List.mem_cons_of_mem _ (List.mem_append_right _ h)) hown hK hP 0 rfl rfl 0 (by decide) (hts _ (List.mem_of_getElem? (i := 1) rfl)) (fun _ h9 => h9) rfl dX2_readContext_6 ?_
  refine lv_icmp_ge (tgt := 36) hx hb dX2_readContext_9 (by decide) (fun c_1 => ?_) (fun c_1 => ?_)
  · have c_1 : (o_od (j_o u)) ≤ (0 : Int32) := c_1
    refine lv_aload_n hx hb dX2_readContext_36 rfl (lv_at hl 2 rfl) ?_
    refine lv_iload_n hx hb dX2_readContext_37 rfl (lv_at hl 1 rfl) ?_
    refine va_put (D := D) (ci := 2) (v := .int 0) (ty := .int) (C := RX2) (T := TX2) (N := 10) hx hb hts (fun _ h => List.mem_cons_of_mem _ (List.mem_append_right _ h)) tyX2 tyX2_ok nmX2 hown hK hP hD hS 0 rfl rfl 7 (by decide) (hts _ (List.mem_of_getElem? (i := 2) rfl)) (fun _ h9 => h9) rfl (by decide +kernel) rfl rfl (Nat.le_of_ble_eq_true rfl) dX2_readContext_38 (fun H locs hP hD hS => ?_)
    have hP : va_P D vwCl (olW cI cL h0 h1 h2 h3 g (js_o u (os_cx (j_o u) 0))) H := hP
    have hD : va_D A (olW cI cL h0 h1 h2 h3 g (js_o u (os_cx (j_o u) 0))) := hD
    have hw9 : (olW cI cL h0 h1 h2 h3 g (js_o u (os_cx (j_o u) 0))) = (olW cI cL h0 h1 h2 h3 g (js_o u (o_ctx (j_f u) (j_o u)))) := by (try unfold o_ctx); (try unfold ctxOf); (try rw [if_pos c_1]); try rfl
    rw [hw9] at hP hD
    exact W.vret hx hb hr (fun t ht hW => ⟨⟨(), rfl, trivial, by rw [ht]; exact hP, hD⟩, hS.F ht⟩) hS.2.2 dX2_readContext_41
  · have c_1 : ¬ (o_od (j_o u)) ≤ (0 : Int32) := c_1
    refine lv_iload_n hx hb dX2_readContext_12 rfl (lv_at hl 0 rfl) ?_
    refine lv_aload_n hx hb dX2_readContext_13 rfl (lv_at hl 3 rfl) ?_
    refine va_alen (v := 3) hx hb hK hP 4 0 rfl rfl rfl dX2_readContext_14 ?_
    refine lv_icmp_ge (tgt := 36) hx hb dX2_readContext_15 (by decide) (fun c_2 => absurd c_2 (by decide)) (fun c_2 => ?_)
    refine lv_sipush (v := 257) hx hb dX2_readContext_18 (by decide) ?_
    refine lv_iload_n hx hb dX2_readContext_21 rfl (lv_at hl 1 rfl) ?_
    refine lv_imul hx hb dX2_readContext_22 ?_
    refine topI (y := 0) (by decide) ?_
    refine lv_iconst (v := 1) hx hb dX2_readContext_23 (by decide) ?_
    refine lv_iadd hx hb dX2_readContext_24 ?_
    refine topI (y := 1) (by decide) ?_
    refine lv_aload_n hx hb dX2_readContext_25 rfl (lv_at hl 3 rfl) ?_
    refine lv_iload_n hx hb dX2_readContext_26 rfl (lv_at hl 0 rfl) ?_
    refine ildN hx hb hK hP 4 0 rfl rfl 0 (by decide) ((Nat.le_of_ble_eq_true rfl)) dX2_readContext_27 ?_
    refine lv_iadd hx hb dX2_readContext_28 ?_
    refine lv_istore_n (lv' := [(2, .int (1 + ((j_f u) 0))), (3, .int 0), (0, .ref h0), (1, .ref g)]) hx hb dX2_readContext_29 rfl hl (by decide) rfl (fun ls hl => ?_)
    refine lv_iinc (v := 1) (lv' := [(3, .int 1), (2, .int (1 + ((j_f u) 0))), (0, .ref h0), (1, .ref g)]) hx hb dX2_readContext_30 hl (k := 1) rfl (by decide) (by decide) rfl (fun ls hl => ?_)
    refine lv_goto (tgt := 4) hx hb dX2_readContext_33 (by decide) ?_
    refine lv_iload_n hx hb dX2_readContext_4 rfl (lv_at hl 0 rfl) ?_
    refine lv_aload_n hx hb dX2_readContext_5 rfl (lv_at hl 2 rfl) ?_
    refine va_get (D := D) (ci := 2) (v := .int (o_od (j_o u))) (C := RX2) (T := TX2) (N := 10) hx hb hts (fun _ h => List.mem_cons_of_mem _ (List.mem_append_right _ h)) hown hK hP 0 rfl rfl 0 (by decide) (hts _ (List.mem_of_getElem? (i := 1) rfl)) (fun _ h9 => h9) rfl dX2_readContext_6 ?_
    refine lv_icmp_ge (tgt := 36) hx hb dX2_readContext_9 (by decide) (fun c_3 => ?_) (fun c_3 => ?_)
    · have c_3 : (o_od (j_o u)) ≤ (1 : Int32) := c_3
      refine lv_aload_n hx hb dX2_readContext_36 rfl (lv_at hl 2 rfl) ?_
      refine lv_iload_n hx hb dX2_readContext_37 rfl (lv_at hl 1 rfl) ?_
      refine va_put (D := D) (ci := 2) (v := .int (1 + ((j_f u) 0))) (ty := .int) (C := RX2) (T := TX2) (N := 10) hx hb hts (fun _ h => List.mem_cons_of_mem _ (List.mem_append_right _ h)) tyX2 tyX2_ok nmX2 hown hK hP hD hS 0 rfl rfl 7 (by decide) (hts _ (List.mem_of_getElem? (i := 2) rfl)) (fun _ h9 => h9) rfl (by decide +kernel) rfl rfl (Nat.le_of_ble_eq_true rfl) dX2_readContext_38 (fun H locs hP hD hS => ?_)
      have hP : va_P D vwCl (olW cI cL h0 h1 h2 h3 g (js_o u (os_cx (j_o u) (1 + ((j_f u) 0))))) H := hP
      have hD : va_D A (olW cI cL h0 h1 h2 h3 g (js_o u (os_cx (j_o u) (1 + ((j_f u) 0))))) := hD
      have hw9 : (olW cI cL h0 h1 h2 h3 g (js_o u (os_cx (j_o u) (1 + ((j_f u) 0))))) = (olW cI cL h0 h1 h2 h3 g (js_o u (o_ctx (j_f u) (j_o u)))) := by (try unfold o_ctx); (try unfold ctxOf); (try rw [if_neg c_1]); (try rw [if_pos c_3]); try rfl
      rw [hw9] at hP hD
      exact W.vret hx hb hr (fun t ht hW => ⟨⟨(), rfl, trivial, by rw [ht]; exact hP, hD⟩, hS.F ht⟩) hS.2.2 dX2_readContext_41
    · have c_3 : ¬ (o_od (j_o u)) ≤ (1 : Int32) := c_3
      refine lv_iload_n hx hb dX2_readContext_12 rfl (lv_at hl 0 rfl) ?_
      refine lv_aload_n hx hb dX2_readContext_13 rfl (lv_at hl 3 rfl) ?_
      refine va_alen (v := 3) hx hb hK hP 4 0 rfl rfl rfl dX2_readContext_14 ?_
      refine lv_icmp_ge (tgt := 36) hx hb dX2_readContext_15 (by decide) (fun c_4 => absurd c_4 (by decide)) (fun c_4 => ?_)
      refine lv_sipush (v := 257) hx hb dX2_readContext_18 (by decide) ?_
      refine lv_iload_n hx hb dX2_readContext_21 rfl (lv_at hl 1 rfl) ?_
      refine lv_imul hx hb dX2_readContext_22 ?_
      refine lv_iconst (v := 1) hx hb dX2_readContext_23 (by decide) ?_
      refine lv_iadd hx hb dX2_readContext_24 ?_
      refine lv_aload_n hx hb dX2_readContext_25 rfl (lv_at hl 3 rfl) ?_
      refine lv_iload_n hx hb dX2_readContext_26 rfl (lv_at hl 0 rfl) ?_
      refine ildN hx hb hK hP 4 0 rfl rfl 1 (by decide) ((Nat.le_of_ble_eq_true rfl)) dX2_readContext_27 ?_
      refine lv_iadd hx hb dX2_readContext_28 ?_
      refine lv_istore_n (lv' := [(2, .int (((257 * (1 + ((j_f u) 0))) + 1) + ((j_f u) 1))), (3, .int 1), (0, .ref h0), (1, .ref g)]) hx hb dX2_readContext_29 rfl hl (by decide) rfl (fun ls hl => ?_)
      refine lv_iinc (v := 2) (lv' := [(3, .int 2), (2, .int (((257 * (1 + ((j_f u) 0))) + 1) + ((j_f u) 1))), (0, .ref h0), (1, .ref g)]) hx hb dX2_readContext_30 hl (k := 1) rfl (by decide) (by decide) rfl (fun ls hl => ?_)
      refine lv_goto (tgt := 4) hx hb dX2_readContext_33 (by decide) ?_
      refine lv_iload_n hx hb dX2_readContext_4 rfl (lv_at hl 0 rfl) ?_
      refine lv_aload_n hx hb dX2_readContext_5 rfl (lv_at hl 2 rfl) ?_
      refine va_get (D := D) (ci := 2) (v := .int (o_od (j_o u))) (C := RX2) (T := TX2) (N := 10) hx hb hts (fun _ h => List.mem_cons_of_mem _ (List.mem_append_right _ h)) hown hK hP 0 rfl rfl 0 (by decide) (hts _ (List.mem_of_getElem? (i := 1) rfl)) (fun _ h9 => h9) rfl dX2_readContext_6 ?_
      refine lv_icmp_ge (tgt := 36) hx hb dX2_readContext_9 (by decide) (fun c_5 => ?_) (fun c_5 => ?_)
      · have c_5 : (o_od (j_o u)) ≤ (2 : Int32) := c_5
        refine lv_aload_n hx hb dX2_readContext_36 rfl (lv_at hl 2 rfl) ?_
        refine lv_iload_n hx hb dX2_readContext_37 rfl (lv_at hl 1 rfl) ?_
        refine va_put (D := D) (ci := 2) (v := .int (((257 * (1 + ((j_f u) 0))) + 1) + ((j_f u) 1))) (ty := .int) (C := RX2) (T := TX2) (N := 10) hx hb hts (fun _ h => List.mem_cons_of_mem _ (List.mem_append_right _ h)) tyX2 tyX2_ok nmX2 hown hK hP hD hS 0 rfl rfl 7 (by decide) (hts _ (List.mem_of_getElem? (i := 2) rfl)) (fun _ h9 => h9) rfl (by decide +kernel) rfl rfl (Nat.le_of_ble_eq_true rfl) dX2_readContext_38 (fun H locs hP hD hS => ?_)
        have hP : va_P D vwCl (olW cI cL h0 h1 h2 h3 g (js_o u (os_cx (j_o u) (((257 * (1 + ((j_f u) 0))) + 1) + ((j_f u) 1))))) H := hP
        have hD : va_D A (olW cI cL h0 h1 h2 h3 g (js_o u (os_cx (j_o u) (((257 * (1 + ((j_f u) 0))) + 1) + ((j_f u) 1))))) := hD
        have hw9 : (olW cI cL h0 h1 h2 h3 g (js_o u (os_cx (j_o u) (((257 * (1 + ((j_f u) 0))) + 1) + ((j_f u) 1))))) = (olW cI cL h0 h1 h2 h3 g (js_o u (o_ctx (j_f u) (j_o u)))) := by (try unfold o_ctx); (try unfold ctxOf); (try rw [if_neg c_1]); (try rw [if_neg c_3]); (try rw [if_pos c_5]); try rfl
        rw [hw9] at hP hD
        exact W.vret hx hb hr (fun t ht hW => ⟨⟨(), rfl, trivial, by rw [ht]; exact hP, hD⟩, hS.F ht⟩) hS.2.2 dX2_readContext_41
      · have c_5 : ¬ (o_od (j_o u)) ≤ (2 : Int32) := c_5
        refine lv_iload_n hx hb dX2_readContext_12 rfl (lv_at hl 0 rfl) ?_
        refine lv_aload_n hx hb dX2_readContext_13 rfl (lv_at hl 3 rfl) ?_
        refine va_alen (v := 3) hx hb hK hP 4 0 rfl rfl rfl dX2_readContext_14 ?_
        refine lv_icmp_ge (tgt := 36) hx hb dX2_readContext_15 (by decide) (fun c_6 => absurd c_6 (by decide)) (fun c_6 => ?_)
        refine lv_sipush (v := 257) hx hb dX2_readContext_18 (by decide) ?_
        refine lv_iload_n hx hb dX2_readContext_21 rfl (lv_at hl 1 rfl) ?_
        refine lv_imul hx hb dX2_readContext_22 ?_
        refine lv_iconst (v := 1) hx hb dX2_readContext_23 (by decide) ?_
        refine lv_iadd hx hb dX2_readContext_24 ?_
        refine lv_aload_n hx hb dX2_readContext_25 rfl (lv_at hl 3 rfl) ?_
        refine lv_iload_n hx hb dX2_readContext_26 rfl (lv_at hl 0 rfl) ?_
        refine ildN hx hb hK hP 4 0 rfl rfl 2 (by decide) ((Nat.le_of_ble_eq_true rfl)) dX2_readContext_27 ?_
        refine lv_iadd hx hb dX2_readContext_28 ?_
        refine lv_istore_n (lv' := [(2, .int (((257 * (((257 * (1 + ((j_f u) 0))) + 1) + ((j_f u) 1))) + 1) + ((j_f u) 2))), (3, .int 2), (0, .ref h0), (1, .ref g)]) hx hb dX2_readContext_29 rfl hl (by decide) rfl (fun ls hl => ?_)
        refine lv_iinc (v := 3) (lv' := [(3, .int 3), (2, .int (((257 * (((257 * (1 + ((j_f u) 0))) + 1) + ((j_f u) 1))) + 1) + ((j_f u) 2))), (0, .ref h0), (1, .ref g)]) hx hb dX2_readContext_30 hl (k := 1) rfl (by decide) (by decide) rfl (fun ls hl => ?_)
        refine lv_goto (tgt := 4) hx hb dX2_readContext_33 (by decide) ?_
        refine lv_iload_n hx hb dX2_readContext_4 rfl (lv_at hl 0 rfl) ?_
        refine lv_aload_n hx hb dX2_readContext_5 rfl (lv_at hl 2 rfl) ?_
        refine va_get (D := D) (ci := 2) (v := .int (o_od (j_o u))) (C := RX2) (T := TX2) (N := 10) hx hb hts (fun _ h => List.mem_cons_of_mem _ (List.mem_append_right _ h)) hown hK hP 0 rfl rfl 0 (by decide) (hts _ (List.mem_of_getElem? (i := 1) rfl)) (fun _ h9 => h9) rfl dX2_readContext_6 ?_
        refine lv_icmp_ge (tgt := 36) hx hb dX2_readContext_9 (by decide) (fun c_7 => ?_) (fun c_7 => ?_)
        · have c_7 : (o_od (j_o u)) ≤ (3 : Int32) := c_7
          refine lv_aload_n hx hb dX2_readContext_36 rfl (lv_at hl 2 rfl) ?_
          refine lv_iload_n hx hb dX2_readContext_37 rfl (lv_at hl 1 rfl) ?_
          refine va_put (D := D) (ci := 2) (v := .int (((257 * (((257 * (1 + ((j_f u) 0))) + 1) + ((j_f u) 1))) + 1) + ((j_f u) 2))) (ty := .int) (C := RX2) (T := TX2) (N := 10) hx hb hts (fun _ h => List.mem_cons_of_mem _ (List.mem_append_right _ h)) tyX2 tyX2_ok nmX2 hown hK hP hD hS 0 rfl rfl 7 (by decide) (hts _ (List.mem_of_getElem? (i := 2) rfl)) (fun _ h9 => h9) rfl (by decide +kernel) rfl rfl (Nat.le_of_ble_eq_true rfl) dX2_readContext_38 (fun H locs hP hD hS => ?_)
          have hP : va_P D vwCl (olW cI cL h0 h1 h2 h3 g (js_o u (os_cx (j_o u) (((257 * (((257 * (1 + ((j_f u) 0))) + 1) + ((j_f u) 1))) + 1) + ((j_f u) 2))))) H := hP
          have hD : va_D A (olW cI cL h0 h1 h2 h3 g (js_o u (os_cx (j_o u) (((257 * (((257 * (1 + ((j_f u) 0))) + 1) + ((j_f u) 1))) + 1) + ((j_f u) 2))))) := hD
          have hw9 : (olW cI cL h0 h1 h2 h3 g (js_o u (os_cx (j_o u) (((257 * (((257 * (1 + ((j_f u) 0))) + 1) + ((j_f u) 1))) + 1) + ((j_f u) 2))))) = (olW cI cL h0 h1 h2 h3 g (js_o u (o_ctx (j_f u) (j_o u)))) := by (try unfold o_ctx); (try unfold ctxOf); (try rw [if_neg c_1]); (try rw [if_neg c_3]); (try rw [if_neg c_5]); (try rw [if_pos c_7]); try rfl
          rw [hw9] at hP hD
          exact W.vret hx hb hr (fun t ht hW => ⟨⟨(), rfl, trivial, by rw [ht]; exact hP, hD⟩, hS.F ht⟩) hS.2.2 dX2_readContext_41
        · have c_7 : ¬ (o_od (j_o u)) ≤ (3 : Int32) := c_7
          refine lv_iload_n hx hb dX2_readContext_12 rfl (lv_at hl 0 rfl) ?_
          refine lv_aload_n hx hb dX2_readContext_13 rfl (lv_at hl 3 rfl) ?_
          refine va_alen (v := 3) hx hb hK hP 4 0 rfl rfl rfl dX2_readContext_14 ?_
          refine lv_icmp_ge (tgt := 36) hx hb dX2_readContext_15 (by decide) (fun c_8 => ?_) (fun c_8 => absurd (by decide) c_8)
          refine lv_aload_n hx hb dX2_readContext_36 rfl (lv_at hl 2 rfl) ?_
          refine lv_iload_n hx hb dX2_readContext_37 rfl (lv_at hl 1 rfl) ?_
          refine va_put (D := D) (ci := 2) (v := .int (((257 * (((257 * (1 + ((j_f u) 0))) + 1) + ((j_f u) 1))) + 1) + ((j_f u) 2))) (ty := .int) (C := RX2) (T := TX2) (N := 10) hx hb hts (fun _ h => List.mem_cons_of_mem _ (List.mem_append_right _ h)) tyX2 tyX2_ok nmX2 hown hK hP hD hS 0 rfl rfl 7 (by decide) (hts _ (List.mem_of_getElem? (i := 2) rfl)) (fun _ h9 => h9) rfl (by decide +kernel) rfl rfl (Nat.le_of_ble_eq_true rfl) dX2_readContext_38 (fun H locs hP hD hS => ?_)
          have hP : va_P D vwCl (olW cI cL h0 h1 h2 h3 g (js_o u (os_cx (j_o u) (((257 * (((257 * (1 + ((j_f u) 0))) + 1) + ((j_f u) 1))) + 1) + ((j_f u) 2))))) H := hP
          have hD : va_D A (olW cI cL h0 h1 h2 h3 g (js_o u (os_cx (j_o u) (((257 * (((257 * (1 + ((j_f u) 0))) + 1) + ((j_f u) 1))) + 1) + ((j_f u) 2))))) := hD
          have hw9 : (olW cI cL h0 h1 h2 h3 g (js_o u (os_cx (j_o u) (((257 * (((257 * (1 + ((j_f u) 0))) + 1) + ((j_f u) 1))) + 1) + ((j_f u) 2))))) = (olW cI cL h0 h1 h2 h3 g (js_o u (o_ctx (j_f u) (j_o u)))) := by (try unfold o_ctx); (try unfold ctxOf); (try rw [if_neg c_1]); (try rw [if_neg c_3]); (try rw [if_neg c_5]); (try rw [if_neg c_7]); try rfl
          rw [hw9] at hP hD
          exact W.vret hx hb hr (fun t ht hW => ⟨⟨(), rfl, trivial, by rw [ht]; exact hP, hD⟩, hS.F ht⟩) hS.2.2 dX2_readContext_41
