/-! ===== more of the reference's calls ===== -/
theorem r_clr_n (u : RS) : r_n (r_clr u) = r_n u := by
  unfold r_clr clr4 clr3 clr2 clr1
  simp only [r_n_er, r_n_ob, r_n_nd, r_n_hi, r_n_cl, r_n_we, r_n_ln, r_n_co]
def LGB (u : RS) : Prop := ∀ j, j < r_n u → 0 < ((1 : Int32) <<< (r_lo u j &&& 31)).toInt ∧ ((1 : Int32) <<< (r_lo u j &&& 31)).toInt ≤ 512
theorem isI5 {i x : Int32} (h0 : 0 < x.toInt) (h1 : x.toInt ≤ 512) (h : ¬ isI i 0 (x - 1) = 0) : vp_in i 512 := by
  have e : (x - 1 : Int32).toInt = x.toInt - 1 := by
    rw [Int32.toInt_sub, tI1, Int.bmod_eq_of_le (by omega) (by omega)]
  unfold isI at h
  split at h
  · exact absurd rfl h
  · rename_i h2
    split at h
    · exact absurd rfl h
    · rename_i h3
      rw [Int32.lt_iff_toInt_lt, tI0] at h2
      rw [Int32.lt_iff_toInt_lt, e] at h3
      exact vp_in_iff.mpr ⟨by omega, by omega⟩

theorem pk_m1s (n : Nat) : nI (n + 1) - 1 = nI n := nI_pred n

set_option maxHeartbeats 4000000 in
set_option maxRecDepth 100000 in
theorem c_X5_byteAt (l : Launch) (D : va_G) (cI cL cM : ClassId) (A : Nat → Prop) (b : Nat → Nat) (u : RS) (q : Int32) (hb9 : r_sz u ≤ 80) : mI l yX5_byteAt wsX5_byteAt ({ frames := 1, cells := 0, slots := 0, locals := 22 }) D (tB cI cL cM) A [.ref (b 0), .int q] (rfW cI b u) (if isI q 0 (nI (r_sz u) - 1) = 0 then 0 else r_tx u q.toNatClampNeg) (rfW cI b (if isI q 0 (nI (r_sz u) - 1) = 0 then (rs_th (rs_th u 0) 1) else (rs_th u 0))) := by
  refine Met.ofW (cc := cX5_byteAt) (maxL := 2) (ret := (some .int)) (by decide) rfl ?_
  intro p e s m args below meth c s₁ B hml hv
  obtain ⟨rfl, hP, hE, hD, hA⟩ := hv
  have hK := hE.1
  have hx := B.exec
  have hb := B.bytes
  have hr := B.returns
  have hts := atoms_spec (ws := wsX5_byteAt) B.pre
  have hown : s.vm.findClass RX5 = some m.cls := findClass_of_methodNamed B.named
  have hlocks := B.notSynchronized
  have hS : va_S A s.heap s.heap [] := va_S.rf
  have hl := lv_entry ([.ref (b 0), .int q]) (n := 2) (Nat.le_of_ble_eq_true rfl)
  rw [lg_entry_eq]
  generalize (lg_sl ([.ref (b 0), .int q]) ++ List.replicate (2 - (lg_sl ([.ref (b 0), .int q])).length) Slot.unset).toArray = ls at hl ⊢
  have hl : lv_has ls 2 [(0, .ref (b 0)), (1, .int q)] := hl
  refine lv_aload_n hx hb dX5_byteAt_0 rfl (lv_at hl 0 rfl) ?_
  refine lv_iconst (v := 0) hx hb dX5_byteAt_1 (by decide) ?_
  refine va_put (D := D) (ci := 5) (v := .int 0) (ty := .int) (C := RX5) (T := TX5) (N := 22) hx hb hts (fun _ h => List.mem_cons_of_mem _ (List.mem_append_right _ h)) tyX5 tyX5_ok nmX5 hown hK hP hD hS 0 rfl rfl 0 (by decide) (hts _ (List.mem_of_getElem? (i := 1) rfl)) (fun _ h9 => h9) rfl (by decide +kernel) rfl rfl (Nat.le_of_ble_eq_true rfl) dX5_byteAt_2 (fun H locs hP hD hS => ?_)
  rw [rfW_th] at hP hD
  have hP : va_P D vwCl (rfW cI b (rs_th u 0)) H := hP
  have hD : va_D A (rfW cI b (rs_th u 0)) := hD
  refine lv_iload_n hx hb dX5_byteAt_5 rfl (lv_at hl 1 rfl) ?_
  refine lv_iconst (v := 0) hx hb dX5_byteAt_6 (by decide) ?_
  refine lv_aload_n hx hb dX5_byteAt_7 rfl (lv_at hl 0 rfl) ?_
  refine va_get (D := D) (ci := 5) (v := .int (nI (r_sz u))) (C := RX5) (T := TX5) (N := 22) hx hb hts (fun _ h => List.mem_cons_of_mem _ (List.mem_append_right _ h)) hown hK hP 0 rfl rfl 5 (by decide) (hts _ (List.mem_of_getElem? (i := 2) rfl)) (fun _ h9 => h9) rfl dX5_byteAt_8 ?_
  refine lv_iconst (v := 1) hx hb dX5_byteAt_11 (by decide) ?_
  refine lv_isub hx hb dX5_byteAt_12 ?_
  refine kI (rS (As := [.int q, .int 0, .int ((nI (r_sz u)) - 1)]) (rest := []) ⟨hx, hb, hml, hown, hts⟩ (c_X5_isIn l D cI cL cM _ q 0 ((nI (r_sz u)) - 1) ) (va_cwS 3 hts gX5_byteAt_X5_isIn rfl rfl rfl (by decide +kernel) ⟨(Nat.le_of_ble_eq_true rfl), (Nat.le_of_ble_eq_true rfl)⟩) hE hP hD [] rfl rfl rfl hl.1 rfl (Nat.le_of_ble_eq_true rfl) dX5_byteAt_13 ⟨(Nat.le_of_ble_eq_true rfl), (Nat.le_of_ble_eq_true rfl)⟩) hP hD hS hA (is := []) rfl rfl (fun H locs hP hD hS => ?_)
  rw [putW_nil] at hP hD
  have hP : va_P D vwCl (rfW cI b (rs_th u 0)) H := hP
  have hD : va_D A (rfW cI b (rs_th u 0)) := hD
  refine lv_if_eq (tgt := 28) hx hb dX5_byteAt_16 (by decide) (fun cm => ?_) (fun cm => ?_)
  · replace cm : (isI q 0 ((nI (r_sz u)) - 1)) = (0 : Int32) := cm
    refine lv_aload_n hx hb dX5_byteAt_28 rfl (lv_at hl 0 rfl) ?_
    refine lv_iconst (v := 1) hx hb dX5_byteAt_29 (by decide) ?_
    refine kIa (rVa (As := [.int 1]) (rest := []) ⟨hx, hb, hml, hown, hts⟩ (c_X5_no l D cI cL cM _ b (rs_th u 0) 1 ) (cwV 1 hts gX5_byteAt_X5_no rfl rfl rfl (by decide +kernel) ⟨(Nat.le_of_ble_eq_true rfl), (Nat.le_of_ble_eq_true rfl)⟩) hE hP hD hS hA 0 rfl rfl rfl hl.1 rfl (Nat.le_of_ble_eq_true rfl) dX5_byteAt_30 ⟨(Nat.le_of_ble_eq_true rfl), (Nat.le_of_ble_eq_true rfl)⟩) hS (fun H locs hP hD hS => ?_)
    have hP : va_P D vwCl (rfW cI b (rs_th (rs_th u 0) 1)) H := hP
    have hD : va_D A (rfW cI b (rs_th (rs_th u 0) 1)) := hD
    have hw9 : (rfW cI b (rs_th (rs_th u 0) 1)) = (rfW cI b (if isI q 0 (nI (r_sz u) - 1) = 0 then (rs_th (rs_th u 0) 1) else (rs_th u 0))) := by first | (rw [if_pos cm]; try rfl) | (rw [if_neg cm]; try rfl)
    rw [hw9] at hP hD
    exact W.iret (v := (0)) hx hb hr (fun t ht hW => ⟨⟨(0), (), rfl, by (first | (rw [if_pos cm]) | (rw [if_neg cm, hcl]; try rfl)), by rw [ht]; exact hP, hD⟩, hS.F ht⟩) hS.2.2 dX5_byteAt_33
  · replace cm : ¬ (isI q 0 ((nI (r_sz u)) - 1)) = (0 : Int32) := cm
    obtain ⟨j, hjn, hq⟩ := isI0 (Nat.lt_of_le_of_lt hb9 (Nat.le_of_ble_eq_true rfl)) cm
    have hjl := Nat.lt_of_lt_of_le hjn hb9
    have hcl := clN hq hjl (Nat.le_of_ble_eq_true rfl)
    refine lv_aload_n hx hb dX5_byteAt_19 rfl (lv_at hl 0 rfl) ?_
    refine va_get (D := D) (ci := 5) (v := .ref (b 4)) (C := RX5) (T := TX5) (N := 22) hx hb hts (fun _ h => List.mem_cons_of_mem _ (List.mem_append_right _ h)) hown hK hP 0 rfl rfl 6 (by decide) (hts _ (List.mem_of_getElem? (i := 3) rfl)) (fun _ h9 => h9) rfl dX5_byteAt_20 ?_
    refine lv_iload_n hx hb dX5_byteAt_23 rfl (lv_at hl 1 rfl) ?_
    refine topI (y := nI j) (hq) ?_
    refine ildN hx hb hK hP 4 0 rfl rfl j (hjl) ((Nat.le_of_ble_eq_true rfl)) dX5_byteAt_24 ?_
    refine lv_goto (tgt := 33) hx hb dX5_byteAt_25 (by decide) ?_
    have hw9 : (rfW cI b (rs_th u 0)) = (rfW cI b (if isI q 0 (nI (r_sz u) - 1) = 0 then (rs_th (rs_th u 0) 1) else (rs_th u 0))) := by first | (rw [if_pos cm]; try rfl) | (rw [if_neg cm]; try rfl)
    rw [hw9] at hP hD
    exact W.iret (v := (r_tx u) j) hx hb hr (fun t ht hW => ⟨⟨((r_tx u) j), (), rfl, by (first | (rw [if_pos cm]) | (rw [if_neg cm, hcl]; try rfl)), by rw [ht]; exact hP, hD⟩, hS.F ht⟩) hS.2.2 dX5_byteAt_33

set_option maxHeartbeats 4000000 in
set_option maxRecDepth 100000 in
theorem c_X5_code (l : Launch) (D : va_G) (cI cL cM : ClassId) (A : Nat → Prop) (b : Nat → Nat) (u : RS) (q : Int32) (hb9 : r_cs u ≤ 3000) : mI l yX5_code wsX5_code ({ frames := 1, cells := 0, slots := 0, locals := 22 }) D (tB cI cL cM) A [.ref (b 0), .int q] (rfW cI b u) (if isI q 0 (nI (r_cs u) - 1) = 0 then 0 else r_cd u q.toNatClampNeg) (rfW cI b (if isI q 0 (nI (r_cs u) - 1) = 0 then (rs_th (rs_th u 0) 1) else (rs_th u 0))) := by
  refine Met.ofW (cc := cX5_code) (maxL := 2) (ret := (some .int)) (by decide) rfl ?_
  intro p e s m args below meth c s₁ B hml hv
  obtain ⟨rfl, hP, hE, hD, hA⟩ := hv
  have hK := hE.1
  have hx := B.exec
  have hb := B.bytes
  have hr := B.returns
  have hts := atoms_spec (ws := wsX5_code) B.pre
  have hown : s.vm.findClass RX5 = some m.cls := findClass_of_methodNamed B.named
  have hlocks := B.notSynchronized
  have hS : va_S A s.heap s.heap [] := va_S.rf
  have hl := lv_entry ([.ref (b 0), .int q]) (n := 2) (Nat.le_of_ble_eq_true rfl)
  rw [lg_entry_eq]
  generalize (lg_sl ([.ref (b 0), .int q]) ++ List.replicate (2 - (lg_sl ([.ref (b 0), .int q])).length) Slot.unset).toArray = ls at hl ⊢
  have hl : lv_has ls 2 [(0, .ref (b 0)), (1, .int q)] := hl
  refine lv_aload_n hx hb dX5_code_0 rfl (lv_at hl 0 rfl) ?_
  refine lv_iconst (v := 0) hx hb dX5_code_1 (by decide) ?_
  refine va_put (D := D) (ci := 5) (v := .int 0) (ty := .int) (C := RX5) (T := TX5) (N := 22) hx hb hts (fun _ h => List.mem_cons_of_mem _ (List.mem_append_right _ h)) tyX5 tyX5_ok nmX5 hown hK hP hD hS 0 rfl rfl 0 (by decide) (hts _ (List.mem_of_getElem? (i := 1) rfl)) (fun _ h9 => h9) rfl (by decide +kernel) rfl rfl (Nat.le_of_ble_eq_true rfl) dX5_code_2 (fun H locs hP hD hS => ?_)
  rw [rfW_th] at hP hD
  have hP : va_P D vwCl (rfW cI b (rs_th u 0)) H := hP
  have hD : va_D A (rfW cI b (rs_th u 0)) := hD
  refine lv_iload_n hx hb dX5_code_5 rfl (lv_at hl 1 rfl) ?_
  refine lv_iconst (v := 0) hx hb dX5_code_6 (by decide) ?_
  refine lv_aload_n hx hb dX5_code_7 rfl (lv_at hl 0 rfl) ?_
  refine va_get (D := D) (ci := 5) (v := .int (nI (r_cs u))) (C := RX5) (T := TX5) (N := 22) hx hb hts (fun _ h => List.mem_cons_of_mem _ (List.mem_append_right _ h)) hown hK hP 0 rfl rfl 16 (by decide) (hts _ (List.mem_of_getElem? (i := 2) rfl)) (fun _ h9 => h9) rfl dX5_code_8 ?_
  refine lv_iconst (v := 1) hx hb dX5_code_11 (by decide) ?_
  refine lv_isub hx hb dX5_code_12 ?_
  refine kI (rS (As := [.int q, .int 0, .int ((nI (r_cs u)) - 1)]) (rest := []) ⟨hx, hb, hml, hown, hts⟩ (c_X5_isIn l D cI cL cM _ q 0 ((nI (r_cs u)) - 1) ) (va_cwS 3 hts gX5_code_X5_isIn rfl rfl rfl (by decide +kernel) ⟨(Nat.le_of_ble_eq_true rfl), (Nat.le_of_ble_eq_true rfl)⟩) hE hP hD [] rfl rfl rfl hl.1 rfl (Nat.le_of_ble_eq_true rfl) dX5_code_13 ⟨(Nat.le_of_ble_eq_true rfl), (Nat.le_of_ble_eq_true rfl)⟩) hP hD hS hA (is := []) rfl rfl (fun H locs hP hD hS => ?_)
  rw [putW_nil] at hP hD
  have hP : va_P D vwCl (rfW cI b (rs_th u 0)) H := hP
  have hD : va_D A (rfW cI b (rs_th u 0)) := hD
  refine lv_if_eq (tgt := 28) hx hb dX5_code_16 (by decide) (fun cm => ?_) (fun cm => ?_)
  · replace cm : (isI q 0 ((nI (r_cs u)) - 1)) = (0 : Int32) := cm
    refine lv_aload_n hx hb dX5_code_28 rfl (lv_at hl 0 rfl) ?_
    refine lv_iconst (v := 1) hx hb dX5_code_29 (by decide) ?_
    refine kIa (rVa (As := [.int 1]) (rest := []) ⟨hx, hb, hml, hown, hts⟩ (c_X5_no l D cI cL cM _ b (rs_th u 0) 1 ) (cwV 1 hts gX5_code_X5_no rfl rfl rfl (by decide +kernel) ⟨(Nat.le_of_ble_eq_true rfl), (Nat.le_of_ble_eq_true rfl)⟩) hE hP hD hS hA 0 rfl rfl rfl hl.1 rfl (Nat.le_of_ble_eq_true rfl) dX5_code_30 ⟨(Nat.le_of_ble_eq_true rfl), (Nat.le_of_ble_eq_true rfl)⟩) hS (fun H locs hP hD hS => ?_)
    have hP : va_P D vwCl (rfW cI b (rs_th (rs_th u 0) 1)) H := hP
    have hD : va_D A (rfW cI b (rs_th (rs_th u 0) 1)) := hD
    have hw9 : (rfW cI b (rs_th (rs_th u 0) 1)) = (rfW cI b (if isI q 0 (nI (r_cs u) - 1) = 0 then (rs_th (rs_th u 0) 1) else (rs_th u 0))) := by first | (rw [if_pos cm]; try rfl) | (rw [if_neg cm]; try rfl)
    rw [hw9] at hP hD
    exact W.iret (v := (0)) hx hb hr (fun t ht hW => ⟨⟨(0), (), rfl, by (first | (rw [if_pos cm]) | (rw [if_neg cm, hcl]; try rfl)), by rw [ht]; exact hP, hD⟩, hS.F ht⟩) hS.2.2 dX5_code_33
  · replace cm : ¬ (isI q 0 ((nI (r_cs u)) - 1)) = (0 : Int32) := cm
    obtain ⟨j, hjn, hq⟩ := isI0 (Nat.lt_of_le_of_lt hb9 (Nat.le_of_ble_eq_true rfl)) cm
    have hjl := Nat.lt_of_lt_of_le hjn hb9
    have hcl := clN hq hjl (Nat.le_of_ble_eq_true rfl)
    refine lv_aload_n hx hb dX5_code_19 rfl (lv_at hl 0 rfl) ?_
    refine va_get (D := D) (ci := 5) (v := .ref (b 11)) (C := RX5) (T := TX5) (N := 22) hx hb hts (fun _ h => List.mem_cons_of_mem _ (List.mem_append_right _ h)) hown hK hP 0 rfl rfl 17 (by decide) (hts _ (List.mem_of_getElem? (i := 3) rfl)) (fun _ h9 => h9) rfl dX5_code_20 ?_
    refine lv_iload_n hx hb dX5_code_23 rfl (lv_at hl 1 rfl) ?_
    refine topI (y := nI j) (hq) ?_
    refine ildN hx hb hK hP 11 0 rfl rfl j (hjl) ((Nat.le_of_ble_eq_true rfl)) dX5_code_24 ?_
    refine lv_goto (tgt := 33) hx hb dX5_code_25 (by decide) ?_
    have hw9 : (rfW cI b (rs_th u 0)) = (rfW cI b (if isI q 0 (nI (r_cs u) - 1) = 0 then (rs_th (rs_th u 0) 1) else (rs_th u 0))) := by first | (rw [if_pos cm]; try rfl) | (rw [if_neg cm]; try rfl)
    rw [hw9] at hP hD
    exact W.iret (v := (r_cd u) j) hx hb hr (fun t ht hW => ⟨⟨((r_cd u) j), (), rfl, by (first | (rw [if_pos cm]) | (rw [if_neg cm, hcl]; try rfl)), by rw [ht]; exact hP, hD⟩, hS.F ht⟩) hS.2.2 dX5_code_33

set_option maxHeartbeats 4000000 in
set_option maxRecDepth 100000 in
theorem c_X5_output (l : Launch) (D : va_G) (cI cL cM : ClassId) (A : Nat → Prop) (b : Nat → Nat) (u : RS) (q : Int32) (hb9 : r_mk u ≤ 80) : mI l yX5_output wsX5_output ({ frames := 1, cells := 0, slots := 0, locals := 22 }) D (tB cI cL cM) A [.ref (b 0), .int q] (rfW cI b u) (if isI q 0 (nI (r_mk u) - 1) = 0 then 0 else r_ou u q.toNatClampNeg) (rfW cI b (if isI q 0 (nI (r_mk u) - 1) = 0 then (rs_th (rs_th u 0) 1) else (rs_th u 0))) := by
  refine Met.ofW (cc := cX5_output) (maxL := 2) (ret := (some .int)) (by decide) rfl ?_
  intro p e s m args below meth c s₁ B hml hv
  obtain ⟨rfl, hP, hE, hD, hA⟩ := hv
  have hK := hE.1
  have hx := B.exec
  have hb := B.bytes
  have hr := B.returns
  have hts := atoms_spec (ws := wsX5_output) B.pre
  have hown : s.vm.findClass RX5 = some m.cls := findClass_of_methodNamed B.named
  have hlocks := B.notSynchronized
  have hS : va_S A s.heap s.heap [] := va_S.rf
  have hl := lv_entry ([.ref (b 0), .int q]) (n := 2) (Nat.le_of_ble_eq_true rfl)
  rw [lg_entry_eq]
  generalize (lg_sl ([.ref (b 0), .int q]) ++ List.replicate (2 - (lg_sl ([.ref (b 0), .int q])).length) Slot.unset).toArray = ls at hl ⊢
  have hl : lv_has ls 2 [(0, .ref (b 0)), (1, .int q)] := hl
  refine lv_aload_n hx hb dX5_output_0 rfl (lv_at hl 0 rfl) ?_
  refine lv_iconst (v := 0) hx hb dX5_output_1 (by decide) ?_
  refine va_put (D := D) (ci := 5) (v := .int 0) (ty := .int) (C := RX5) (T := TX5) (N := 22) hx hb hts (fun _ h => List.mem_cons_of_mem _ (List.mem_append_right _ h)) tyX5 tyX5_ok nmX5 hown hK hP hD hS 0 rfl rfl 0 (by decide) (hts _ (List.mem_of_getElem? (i := 1) rfl)) (fun _ h9 => h9) rfl (by decide +kernel) rfl rfl (Nat.le_of_ble_eq_true rfl) dX5_output_2 (fun H locs hP hD hS => ?_)
  rw [rfW_th] at hP hD
  have hP : va_P D vwCl (rfW cI b (rs_th u 0)) H := hP
  have hD : va_D A (rfW cI b (rs_th u 0)) := hD
  refine lv_iload_n hx hb dX5_output_5 rfl (lv_at hl 1 rfl) ?_
  refine lv_iconst (v := 0) hx hb dX5_output_6 (by decide) ?_
  refine lv_aload_n hx hb dX5_output_7 rfl (lv_at hl 0 rfl) ?_
  refine va_get (D := D) (ci := 5) (v := .int (nI (r_mk u))) (C := RX5) (T := TX5) (N := 22) hx hb hts (fun _ h => List.mem_cons_of_mem _ (List.mem_append_right _ h)) hown hK hP 0 rfl rfl 18 (by decide) (hts _ (List.mem_of_getElem? (i := 2) rfl)) (fun _ h9 => h9) rfl dX5_output_8 ?_
  refine lv_iconst (v := 1) hx hb dX5_output_11 (by decide) ?_
  refine lv_isub hx hb dX5_output_12 ?_
  refine kI (rS (As := [.int q, .int 0, .int ((nI (r_mk u)) - 1)]) (rest := []) ⟨hx, hb, hml, hown, hts⟩ (c_X5_isIn l D cI cL cM _ q 0 ((nI (r_mk u)) - 1) ) (va_cwS 3 hts gX5_output_X5_isIn rfl rfl rfl (by decide +kernel) ⟨(Nat.le_of_ble_eq_true rfl), (Nat.le_of_ble_eq_true rfl)⟩) hE hP hD [] rfl rfl rfl hl.1 rfl (Nat.le_of_ble_eq_true rfl) dX5_output_13 ⟨(Nat.le_of_ble_eq_true rfl), (Nat.le_of_ble_eq_true rfl)⟩) hP hD hS hA (is := []) rfl rfl (fun H locs hP hD hS => ?_)
  rw [putW_nil] at hP hD
  have hP : va_P D vwCl (rfW cI b (rs_th u 0)) H := hP
  have hD : va_D A (rfW cI b (rs_th u 0)) := hD
  refine lv_if_eq (tgt := 28) hx hb dX5_output_16 (by decide) (fun cm => ?_) (fun cm => ?_)
  · replace cm : (isI q 0 ((nI (r_mk u)) - 1)) = (0 : Int32) := cm
    refine lv_aload_n hx hb dX5_output_28 rfl (lv_at hl 0 rfl) ?_
    refine lv_iconst (v := 1) hx hb dX5_output_29 (by decide) ?_
    refine kIa (rVa (As := [.int 1]) (rest := []) ⟨hx, hb, hml, hown, hts⟩ (c_X5_no l D cI cL cM _ b (rs_th u 0) 1 ) (cwV 1 hts gX5_output_X5_no rfl rfl rfl (by decide +kernel) ⟨(Nat.le_of_ble_eq_true rfl), (Nat.le_of_ble_eq_true rfl)⟩) hE hP hD hS hA 0 rfl rfl rfl hl.1 rfl (Nat.le_of_ble_eq_true rfl) dX5_output_30 ⟨(Nat.le_of_ble_eq_true rfl), (Nat.le_of_ble_eq_true rfl)⟩) hS (fun H locs hP hD hS => ?_)
    have hP : va_P D vwCl (rfW cI b (rs_th (rs_th u 0) 1)) H := hP
    have hD : va_D A (rfW cI b (rs_th (rs_th u 0) 1)) := hD
    have hw9 : (rfW cI b (rs_th (rs_th u 0) 1)) = (rfW cI b (if isI q 0 (nI (r_mk u) - 1) = 0 then (rs_th (rs_th u 0) 1) else (rs_th u 0))) := by first | (rw [if_pos cm]; try rfl) | (rw [if_neg cm]; try rfl)
    rw [hw9] at hP hD
    exact W.iret (v := (0)) hx hb hr (fun t ht hW => ⟨⟨(0), (), rfl, by (first | (rw [if_pos cm]) | (rw [if_neg cm, hcl]; try rfl)), by rw [ht]; exact hP, hD⟩, hS.F ht⟩) hS.2.2 dX5_output_33
  · replace cm : ¬ (isI q 0 ((nI (r_mk u)) - 1)) = (0 : Int32) := cm
    obtain ⟨j, hjn, hq⟩ := isI0 (Nat.lt_of_le_of_lt hb9 (Nat.le_of_ble_eq_true rfl)) cm
    have hjl := Nat.lt_of_lt_of_le hjn hb9
    have hcl := clN hq hjl (Nat.le_of_ble_eq_true rfl)
    refine lv_aload_n hx hb dX5_output_19 rfl (lv_at hl 0 rfl) ?_
    refine va_get (D := D) (ci := 5) (v := .ref (b 12)) (C := RX5) (T := TX5) (N := 22) hx hb hts (fun _ h => List.mem_cons_of_mem _ (List.mem_append_right _ h)) hown hK hP 0 rfl rfl 19 (by decide) (hts _ (List.mem_of_getElem? (i := 3) rfl)) (fun _ h9 => h9) rfl dX5_output_20 ?_
    refine lv_iload_n hx hb dX5_output_23 rfl (lv_at hl 1 rfl) ?_
    refine topI (y := nI j) (hq) ?_
    refine ildN hx hb hK hP 12 0 rfl rfl j (hjl) ((Nat.le_of_ble_eq_true rfl)) dX5_output_24 ?_
    refine lv_goto (tgt := 33) hx hb dX5_output_25 (by decide) ?_
    have hw9 : (rfW cI b (rs_th u 0)) = (rfW cI b (if isI q 0 (nI (r_mk u) - 1) = 0 then (rs_th (rs_th u 0) 1) else (rs_th u 0))) := by first | (rw [if_pos cm]; try rfl) | (rw [if_neg cm]; try rfl)
    rw [hw9] at hP hD
    exact W.iret (v := (r_ou u) j) hx hb hr (fun t ht hW => ⟨⟨((r_ou u) j), (), rfl, by (first | (rw [if_pos cm]) | (rw [if_neg cm, hcl]; try rfl)), by rw [ht]; exact hP, hD⟩, hS.F ht⟩) hS.2.2 dX5_output_33

set_option maxHeartbeats 4000000 in
set_option maxRecDepth 100000 in
theorem c_X5_history (l : Launch) (D : va_G) (cI cL cM : ClassId) (A : Nat → Prop) (b : Nat → Nat) (u : RS) (q : Int32) : mI l yX5_history wsX5_history ({ frames := 1, cells := 0, slots := 0, locals := 22 }) D (tB cI cL cM) A [.ref (b 0), .int q] (rfW cI b u) (if isI q 0 2 = 0 then 0 else r_hi u q.toNatClampNeg) (rfW cI b (if isI q 0 2 = 0 then (rs_th (rs_th u 0) 1) else (rs_th u 0))) := by
  refine Met.ofW (cc := cX5_history) (maxL := 2) (ret := (some .int)) (by decide) rfl ?_
  intro p e s m args below meth c s₁ B hml hv
  obtain ⟨rfl, hP, hE, hD, hA⟩ := hv
  have hK := hE.1
  have hx := B.exec
  have hb := B.bytes
  have hr := B.returns
  have hts := atoms_spec (ws := wsX5_history) B.pre
  have hown : s.vm.findClass RX5 = some m.cls := findClass_of_methodNamed B.named
  have hlocks := B.notSynchronized
  have hS : va_S A s.heap s.heap [] := va_S.rf
  have hl := lv_entry ([.ref (b 0), .int q]) (n := 2) (Nat.le_of_ble_eq_true rfl)
  rw [lg_entry_eq]
  generalize (lg_sl ([.ref (b 0), .int q]) ++ List.replicate (2 - (lg_sl ([.ref (b 0), .int q])).length) Slot.unset).toArray = ls at hl ⊢
  have hl : lv_has ls 2 [(0, .ref (b 0)), (1, .int q)] := hl
  refine lv_aload_n hx hb dX5_history_0 rfl (lv_at hl 0 rfl) ?_
  refine lv_iconst (v := 0) hx hb dX5_history_1 (by decide) ?_
  refine va_put (D := D) (ci := 5) (v := .int 0) (ty := .int) (C := RX5) (T := TX5) (N := 22) hx hb hts (fun _ h => List.mem_cons_of_mem _ (List.mem_append_right _ h)) tyX5 tyX5_ok nmX5 hown hK hP hD hS 0 rfl rfl 0 (by decide) (hts _ (List.mem_of_getElem? (i := 1) rfl)) (fun _ h9 => h9) rfl (by decide +kernel) rfl rfl (Nat.le_of_ble_eq_true rfl) dX5_history_2 (fun H locs hP hD hS => ?_)
  rw [rfW_th] at hP hD
  have hP : va_P D vwCl (rfW cI b (rs_th u 0)) H := hP
  have hD : va_D A (rfW cI b (rs_th u 0)) := hD
  refine lv_iload_n hx hb dX5_history_5 rfl (lv_at hl 1 rfl) ?_
  refine lv_iconst (v := 0) hx hb dX5_history_6 (by decide) ?_
  refine lv_iconst (v := 2) hx hb dX5_history_7 (by decide) ?_
  refine kI (rS (As := [.int q, .int 0, .int 2]) (rest := []) ⟨hx, hb, hml, hown, hts⟩ (c_X5_isIn l D cI cL cM _ q 0 2 ) (va_cwS 3 hts gX5_history_X5_isIn rfl rfl rfl (by decide +kernel) ⟨(Nat.le_of_ble_eq_true rfl), (Nat.le_of_ble_eq_true rfl)⟩) hE hP hD [] rfl rfl rfl hl.1 rfl (Nat.le_of_ble_eq_true rfl) dX5_history_8 ⟨(Nat.le_of_ble_eq_true rfl), (Nat.le_of_ble_eq_true rfl)⟩) hP hD hS hA (is := []) rfl rfl (fun H locs hP hD hS => ?_)
  rw [putW_nil] at hP hD
  have hP : va_P D vwCl (rfW cI b (rs_th u 0)) H := hP
  have hD : va_D A (rfW cI b (rs_th u 0)) := hD
  refine lv_if_eq (tgt := 23) hx hb dX5_history_11 (by decide) (fun cm => ?_) (fun cm => ?_)
  · replace cm : (isI q 0 2) = (0 : Int32) := cm
    refine lv_aload_n hx hb dX5_history_23 rfl (lv_at hl 0 rfl) ?_
    refine lv_iconst (v := 1) hx hb dX5_history_24 (by decide) ?_
    refine kIa (rVa (As := [.int 1]) (rest := []) ⟨hx, hb, hml, hown, hts⟩ (c_X5_no l D cI cL cM _ b (rs_th u 0) 1 ) (cwV 1 hts gX5_history_X5_no rfl rfl rfl (by decide +kernel) ⟨(Nat.le_of_ble_eq_true rfl), (Nat.le_of_ble_eq_true rfl)⟩) hE hP hD hS hA 0 rfl rfl rfl hl.1 rfl (Nat.le_of_ble_eq_true rfl) dX5_history_25 ⟨(Nat.le_of_ble_eq_true rfl), (Nat.le_of_ble_eq_true rfl)⟩) hS (fun H locs hP hD hS => ?_)
    have hP : va_P D vwCl (rfW cI b (rs_th (rs_th u 0) 1)) H := hP
    have hD : va_D A (rfW cI b (rs_th (rs_th u 0) 1)) := hD
    have hw9 : (rfW cI b (rs_th (rs_th u 0) 1)) = (rfW cI b (if isI q 0 2 = 0 then (rs_th (rs_th u 0) 1) else (rs_th u 0))) := by first | (rw [if_pos cm]; try rfl) | (rw [if_neg cm]; try rfl)
    rw [hw9] at hP hD
    exact W.iret (v := (0)) hx hb hr (fun t ht hW => ⟨⟨(0), (), rfl, by (first | (rw [if_pos cm]) | (rw [if_neg cm, hcl]; try rfl)), by rw [ht]; exact hP, hD⟩, hS.F ht⟩) hS.2.2 dX5_history_28
  · replace cm : ¬ (isI q 0 2) = (0 : Int32) := cm
    obtain ⟨j, hjn, hq⟩ := isI1 (n := 2) (Nat.le_of_ble_eq_true rfl) cm
    have hj3 : j < 3 := by omega
    have hcl := clN hq hj3 (Nat.le_of_ble_eq_true rfl)
    refine lv_aload_n hx hb dX5_history_14 rfl (lv_at hl 0 rfl) ?_
    refine va_get (D := D) (ci := 5) (v := .ref (b 10)) (C := RX5) (T := TX5) (N := 22) hx hb hts (fun _ h => List.mem_cons_of_mem _ (List.mem_append_right _ h)) hown hK hP 0 rfl rfl 12 (by decide) (hts _ (List.mem_of_getElem? (i := 2) rfl)) (fun _ h9 => h9) rfl dX5_history_15 ?_
    refine lv_iload_n hx hb dX5_history_18 rfl (lv_at hl 1 rfl) ?_
    refine topI (y := nI j) (hq) ?_
    refine ildN hx hb hK hP 10 0 rfl rfl j (hj3) ((Nat.le_of_ble_eq_true rfl)) dX5_history_19 ?_
    refine lv_goto (tgt := 28) hx hb dX5_history_20 (by decide) ?_
    have hw9 : (rfW cI b (rs_th u 0)) = (rfW cI b (if isI q 0 2 = 0 then (rs_th (rs_th u 0) 1) else (rs_th u 0))) := by first | (rw [if_pos cm]; try rfl) | (rw [if_neg cm]; try rfl)
    rw [hw9] at hP hD
    exact W.iret (v := (r_hi u) j) hx hb hr (fun t ht hW => ⟨⟨((r_hi u) j), (), rfl, by (first | (rw [if_pos cm]) | (rw [if_neg cm, hcl]; try rfl)), by rw [ht]; exact hP, hD⟩, hS.F ht⟩) hS.2.2 dX5_history_28

set_option maxHeartbeats 4000000 in
set_option maxRecDepth 100000 in
theorem c_X5_counter (l : Launch) (D : va_G) (cI cL cM : ClassId) (A : Nat → Prop) (b : Nat → Nat) (u : RS) (q i : Int32) (hs : RSf u) (hg : LGB u) : mI l yX5_counter wsX5_counter ({ frames := 2, cells := 0, slots := 0, locals := 43 }) D (tB cI cL cM) A [.ref (b 0), .int q, .int i] (rfW cI b u) (if isI q 0 (nI (r_n u) - 1) = 0 then 0 else if isI i 0 ((1 : Int32) <<< (r_lo u q.toNatClampNeg &&& 31) - 1) = 0 then 0 else r_co u (512 * q.toNatClampNeg + i.toNatClampNeg)) (rfW cI b (if isI q 0 (nI (r_n u) - 1) = 0 then (rs_th (rs_th u 0) 1) else if isI i 0 ((1 : Int32) <<< (r_lo u q.toNatClampNeg &&& 31) - 1) = 0 then (rs_th (rs_th u 0) 1) else (rs_th u 0))) := by
  refine Met.ofW (cc := cX5_counter) (maxL := 3) (ret := (some .int)) (by decide) rfl ?_
  intro p e s m args below meth c s₁ B hml hv
  obtain ⟨rfl, hP, hE, hD, hA⟩ := hv
  have hK := hE.1
  have hx := B.exec
  have hb := B.bytes
  have hr := B.returns
  have hts := atoms_spec (ws := wsX5_counter) B.pre
  have hown : s.vm.findClass RX5 = some m.cls := findClass_of_methodNamed B.named
  have hlocks := B.notSynchronized
  have hS : va_S A s.heap s.heap [] := va_S.rf
  have hl := lv_entry ([.ref (b 0), .int q, .int i]) (n := 3) (Nat.le_of_ble_eq_true rfl)
  rw [lg_entry_eq]
  generalize (lg_sl ([.ref (b 0), .int q, .int i]) ++ List.replicate (3 - (lg_sl ([.ref (b 0), .int q, .int i])).length) Slot.unset).toArray = ls at hl ⊢
  have hl : lv_has ls 3 [(0, .ref (b 0)), (1, .int q), (2, .int i)] := hl
  refine lv_aload_n hx hb dX5_counter_0 rfl (lv_at hl 0 rfl) ?_
  refine lv_iconst (v := 0) hx hb dX5_counter_1 (by decide) ?_
  refine va_put (D := D) (ci := 5) (v := .int 0) (ty := .int) (C := RX5) (T := TX5) (N := 22) hx hb hts (fun _ h => List.mem_cons_of_mem _ (List.mem_append_right _ h)) tyX5 tyX5_ok nmX5 hown hK hP hD hS 0 rfl rfl 0 (by decide) (hts _ (List.mem_of_getElem? (i := 1) rfl)) (fun _ h9 => h9) rfl (by decide +kernel) rfl rfl (Nat.le_of_ble_eq_true rfl) dX5_counter_2 (fun H locs hP hD hS => ?_)
  rw [rfW_th] at hP hD
  have hP : va_P D vwCl (rfW cI b (rs_th u 0)) H := hP
  have hD : va_D A (rfW cI b (rs_th u 0)) := hD
  refine lv_aload_n hx hb dX5_counter_5 rfl (lv_at hl 0 rfl) ?_
  refine lv_iload_n hx hb dX5_counter_6 rfl (lv_at hl 1 rfl) ?_
  refine kIa (rVa (As := [.int q]) (rest := []) ⟨hx, hb, hml, hown, hts⟩ (c_X5_isModel l D cI cL cM _ b (rs_th u 0) q ) (cwV 1 hts gX5_counter_X5_isModel rfl rfl rfl (by decide +kernel) ⟨(Nat.le_of_ble_eq_true rfl), (Nat.le_of_ble_eq_true rfl)⟩) hE hP hD hS hA 0 rfl rfl rfl hl.1 rfl (Nat.le_of_ble_eq_true rfl) dX5_counter_7 ⟨(Nat.le_of_ble_eq_true rfl), (Nat.le_of_ble_eq_true rfl)⟩) hS (fun H locs hP hD hS => ?_)
  have hP : va_P D vwCl (rfW cI b (rs_th u 0)) H := hP
  have hD : va_D A (rfW cI b (rs_th u 0)) := hD
  refine lv_if_eq (tgt := 46) hx hb dX5_counter_10 (by decide) (fun cm => ?_) (fun cm => ?_)
  · replace cm : (isI q 0 (nI (r_n u) - 1)) = (0 : Int32) := cm
    refine lv_aload_n hx hb dX5_counter_46 rfl (lv_at hl 0 rfl) ?_
    refine lv_iconst (v := 1) hx hb dX5_counter_47 (by decide) ?_
    refine kIa (rVa (As := [.int 1]) (rest := []) ⟨hx, hb, hml, hown, hts⟩ (c_X5_no l D cI cL cM _ b (rs_th u 0) 1 ) (cwV 1 hts gX5_counter_X5_no rfl rfl rfl (by decide +kernel) ⟨(Nat.le_of_ble_eq_true rfl), (Nat.le_of_ble_eq_true rfl)⟩) hE hP hD hS hA 0 rfl rfl rfl hl.1 rfl (Nat.le_of_ble_eq_true rfl) dX5_counter_48 ⟨(Nat.le_of_ble_eq_true rfl), (Nat.le_of_ble_eq_true rfl)⟩) hS (fun H locs hP hD hS => ?_)
    have hP : va_P D vwCl (rfW cI b (rs_th (rs_th u 0) 1)) H := hP
    have hD : va_D A (rfW cI b (rs_th (rs_th u 0) 1)) := hD
    have hw9 : (rfW cI b (rs_th (rs_th u 0) 1)) = (rfW cI b (if isI q 0 (nI (r_n u) - 1) = 0 then (rs_th (rs_th u 0) 1) else if isI i 0 ((1 : Int32) <<< (r_lo u q.toNatClampNeg &&& 31) - 1) = 0 then (rs_th (rs_th u 0) 1) else (rs_th u 0))) := by first | (rw [if_pos cm]; try rfl) | (rw [if_neg cm, hcl, if_pos ci]; try rfl) | (rw [if_neg cm, hcl, if_neg ci]; try rfl)
    rw [hw9] at hP hD
    exact W.iret (v := (0)) hx hb hr (fun t ht hW => ⟨⟨(0), (), rfl, by (first | (rw [if_pos cm]) | (rw [if_neg cm, hcl, if_pos ci]) | (rw [if_neg cm, hcl, if_neg ci]; try rfl)), by rw [ht]; exact hP, hD⟩, hS.F ht⟩) hS.2.2 dX5_counter_51
  · replace cm : ¬ (isI q 0 (nI (r_n u) - 1)) = (0 : Int32) := cm
    obtain ⟨hn6, hnd, hnd0, hsj⟩ := id hs
    obtain ⟨j, hjn, hq⟩ := isI0 (by omega) cm
    have hj6 : j < 6 := by omega
    have hcl := clN hq hj6 (Nat.le_of_ble_eq_true rfl)
    refine lv_iload_n hx hb dX5_counter_13 rfl (lv_at hl 2 rfl) ?_
    refine lv_iconst (v := 0) hx hb dX5_counter_14 (by decide) ?_
    refine lv_iconst (v := 1) hx hb dX5_counter_15 (by decide) ?_
    refine lv_aload_n hx hb dX5_counter_16 rfl (lv_at hl 0 rfl) ?_
    refine va_get (D := D) (ci := 5) (v := .ref (b 3)) (C := RX5) (T := TX5) (N := 22) hx hb hts (fun _ h => List.mem_cons_of_mem _ (List.mem_append_right _ h)) hown hK hP 0 rfl rfl 4 (by decide) (hts _ (List.mem_of_getElem? (i := 2) rfl)) (fun _ h9 => h9) rfl dX5_counter_17 ?_
    refine lv_iload_n hx hb dX5_counter_20 rfl (lv_at hl 1 rfl) ?_
    refine topI (y := nI j) (hq) ?_
    refine ildN hx hb hK hP 3 0 rfl rfl j (hj6) ((Nat.le_of_ble_eq_true rfl)) dX5_counter_21 ?_
    refine lv_ishl hx hb dX5_counter_22 ?_
    refine lv_iconst (v := 1) hx hb dX5_counter_23 (by decide) ?_
    refine lv_isub hx hb dX5_counter_24 ?_
    refine kI (rS (As := [.int i, .int 0, .int (((1 : Int32) <<< (((r_lo u) j) &&& 31)) - 1)]) (rest := []) ⟨hx, hb, hml, hown, hts⟩ (c_X5_isIn l D cI cL cM _ i 0 (((1 : Int32) <<< (((r_lo u) j) &&& 31)) - 1) ) (va_cwS 3 hts gX5_counter_X5_isIn rfl rfl rfl (by decide +kernel) ⟨(Nat.le_of_ble_eq_true rfl), (Nat.le_of_ble_eq_true rfl)⟩) hE hP hD [] rfl rfl rfl hl.1 rfl (Nat.le_of_ble_eq_true rfl) dX5_counter_25 ⟨(Nat.le_of_ble_eq_true rfl), (Nat.le_of_ble_eq_true rfl)⟩) hP hD hS hA (is := []) rfl rfl (fun H locs hP hD hS => ?_)
    rw [putW_nil] at hP hD
    have hP : va_P D vwCl (rfW cI b (rs_th u 0)) H := hP
    have hD : va_D A (rfW cI b (rs_th u 0)) := hD
    refine lv_if_eq (tgt := 46) hx hb dX5_counter_28 (by decide) (fun ci => ?_) (fun ci => ?_)
    · replace ci : (isI i 0 (((1 : Int32) <<< (((r_lo u) j) &&& 31)) - 1)) = (0 : Int32) := ci
      refine lv_aload_n hx hb dX5_counter_46 rfl (lv_at hl 0 rfl) ?_
      refine lv_iconst (v := 1) hx hb dX5_counter_47 (by decide) ?_
      refine kIa (rVa (As := [.int 1]) (rest := []) ⟨hx, hb, hml, hown, hts⟩ (c_X5_no l D cI cL cM _ b (rs_th u 0) 1 ) (cwV 1 hts gX5_counter_X5_no rfl rfl rfl (by decide +kernel) ⟨(Nat.le_of_ble_eq_true rfl), (Nat.le_of_ble_eq_true rfl)⟩) hE hP hD hS hA 0 rfl rfl rfl hl.1 rfl (Nat.le_of_ble_eq_true rfl) dX5_counter_48 ⟨(Nat.le_of_ble_eq_true rfl), (Nat.le_of_ble_eq_true rfl)⟩) hS (fun H locs hP hD hS => ?_)
      have hP : va_P D vwCl (rfW cI b (rs_th (rs_th u 0) 1)) H := hP
      have hD : va_D A (rfW cI b (rs_th (rs_th u 0) 1)) := hD
      have hw9 : (rfW cI b (rs_th (rs_th u 0) 1)) = (rfW cI b (if isI q 0 (nI (r_n u) - 1) = 0 then (rs_th (rs_th u 0) 1) else if isI i 0 ((1 : Int32) <<< (r_lo u q.toNatClampNeg &&& 31) - 1) = 0 then (rs_th (rs_th u 0) 1) else (rs_th u 0))) := by first | (rw [if_pos cm]; try rfl) | (rw [if_neg cm, hcl, if_pos ci]; try rfl) | (rw [if_neg cm, hcl, if_neg ci]; try rfl)
      rw [hw9] at hP hD
      exact W.iret (v := (0)) hx hb hr (fun t ht hW => ⟨⟨(0), (), rfl, by (first | (rw [if_pos cm]) | (rw [if_neg cm, hcl, if_pos ci]) | (rw [if_neg cm, hcl, if_neg ci]; try rfl)), by rw [ht]; exact hP, hD⟩, hS.F ht⟩) hS.2.2 dX5_counter_51
    · replace ci : ¬ (isI i 0 (((1 : Int32) <<< (((r_lo u) j) &&& 31)) - 1)) = (0 : Int32) := ci
      have hi5 := isI5 (hg j hjn).1 (hg j hjn).2 ci
      refine lv_aload_n hx hb dX5_counter_31 rfl (lv_at hl 0 rfl) ?_
      refine va_get (D := D) (ci := 5) (v := .ref (b 5)) (C := RX5) (T := TX5) (N := 22) hx hb hts (fun _ h => List.mem_cons_of_mem _ (List.mem_append_right _ h)) hown hK hP 0 rfl rfl 7 (by decide) (hts _ (List.mem_of_getElem? (i := 3) rfl)) (fun _ h9 => h9) rfl dX5_counter_32 ?_
      refine lv_sipush (v := 512) hx hb dX5_counter_35 (by decide) ?_
      refine lv_iload_n hx hb dX5_counter_38 rfl (lv_at hl 1 rfl) ?_
      refine topI (y := nI j) (hq) ?_
      refine lv_imul hx hb dX5_counter_39 ?_
      refine lv_iload_n hx hb dX5_counter_40 rfl (lv_at hl 2 rfl) ?_
      refine lv_iadd hx hb dX5_counter_41 ?_
      refine va_iald hx hb hK hP 5 0 rfl rfl (ixA hj6 hi5) dX5_counter_42 ?_
      refine topI (y := r_co u (512 * j + i.toNatClampNeg)) (congrArg (r_co u) (ixN hj6 hi5)) ?_
      refine lv_goto (tgt := 51) hx hb dX5_counter_43 (by decide) ?_
      have hw9 : (rfW cI b (rs_th u 0)) = (rfW cI b (if isI q 0 (nI (r_n u) - 1) = 0 then (rs_th (rs_th u 0) 1) else if isI i 0 ((1 : Int32) <<< (r_lo u q.toNatClampNeg &&& 31) - 1) = 0 then (rs_th (rs_th u 0) 1) else (rs_th u 0))) := by first | (rw [if_pos cm]; try rfl) | (rw [if_neg cm, hcl, if_pos ci]; try rfl) | (rw [if_neg cm, hcl, if_neg ci]; try rfl)
      rw [hw9] at hP hD
      exact W.iret (v := r_co u (512 * j + i.toNatClampNeg)) hx hb hr (fun t ht hW => ⟨⟨(r_co u (512 * j + i.toNatClampNeg)), (), rfl, by (first | (rw [if_pos cm]) | (rw [if_neg cm, hcl, if_pos ci]) | (rw [if_neg cm, hcl, if_neg ci]; try rfl)), by rw [ht]; exact hP, hD⟩, hS.F ht⟩) hS.2.2 dX5_counter_51

set_option maxHeartbeats 4000000 in
set_option maxRecDepth 100000 in
theorem c_X5_weight (l : Launch) (D : va_G) (cI cL cM : ClassId) (A : Nat → Prop) (b : Nat → Nat) (u : RS) (q i : Int32) (hs : RSf u) : mI l yX5_weight wsX5_weight ({ frames := 2, cells := 0, slots := 0, locals := 43 }) D (tB cI cL cM) A [.ref (b 0), .int q, .int i] (rfW cI b u) (if isI q 0 (nI (r_n u) - 1) = 0 then 0 else if isI i 0 7 = 0 then 0 else r_we u (8 * q.toNatClampNeg + i.toNatClampNeg)) (rfW cI b (if isI q 0 (nI (r_n u) - 1) = 0 then (rs_th (rs_th u 0) 1) else if isI i 0 7 = 0 then (rs_th (rs_th u 0) 1) else (rs_th u 0))) := by
  refine Met.ofW (cc := cX5_weight) (maxL := 3) (ret := (some .int)) (by decide) rfl ?_
  intro p e s m args below meth c s₁ B hml hv
  obtain ⟨rfl, hP, hE, hD, hA⟩ := hv
  have hK := hE.1
  have hx := B.exec
  have hb := B.bytes
  have hr := B.returns
  have hts := atoms_spec (ws := wsX5_weight) B.pre
  have hown : s.vm.findClass RX5 = some m.cls := findClass_of_methodNamed B.named
  have hlocks := B.notSynchronized
  have hS : va_S A s.heap s.heap [] := va_S.rf
  have hl := lv_entry ([.ref (b 0), .int q, .int i]) (n := 3) (Nat.le_of_ble_eq_true rfl)
  rw [lg_entry_eq]
  generalize (lg_sl ([.ref (b 0), .int q, .int i]) ++ List.replicate (3 - (lg_sl ([.ref (b 0), .int q, .int i])).length) Slot.unset).toArray = ls at hl ⊢
  have hl : lv_has ls 3 [(0, .ref (b 0)), (1, .int q), (2, .int i)] := hl
  refine lv_aload_n hx hb dX5_weight_0 rfl (lv_at hl 0 rfl) ?_
  refine lv_iconst (v := 0) hx hb dX5_weight_1 (by decide) ?_
  refine va_put (D := D) (ci := 5) (v := .int 0) (ty := .int) (C := RX5) (T := TX5) (N := 22) hx hb hts (fun _ h => List.mem_cons_of_mem _ (List.mem_append_right _ h)) tyX5 tyX5_ok nmX5 hown hK hP hD hS 0 rfl rfl 0 (by decide) (hts _ (List.mem_of_getElem? (i := 1) rfl)) (fun _ h9 => h9) rfl (by decide +kernel) rfl rfl (Nat.le_of_ble_eq_true rfl) dX5_weight_2 (fun H locs hP hD hS => ?_)
  rw [rfW_th] at hP hD
  have hP : va_P D vwCl (rfW cI b (rs_th u 0)) H := hP
  have hD : va_D A (rfW cI b (rs_th u 0)) := hD
  refine lv_aload_n hx hb dX5_weight_5 rfl (lv_at hl 0 rfl) ?_
  refine lv_iload_n hx hb dX5_weight_6 rfl (lv_at hl 1 rfl) ?_
  refine kIa (rVa (As := [.int q]) (rest := []) ⟨hx, hb, hml, hown, hts⟩ (c_X5_isModel l D cI cL cM _ b (rs_th u 0) q ) (cwV 1 hts gX5_weight_X5_isModel rfl rfl rfl (by decide +kernel) ⟨(Nat.le_of_ble_eq_true rfl), (Nat.le_of_ble_eq_true rfl)⟩) hE hP hD hS hA 0 rfl rfl rfl hl.1 rfl (Nat.le_of_ble_eq_true rfl) dX5_weight_7 ⟨(Nat.le_of_ble_eq_true rfl), (Nat.le_of_ble_eq_true rfl)⟩) hS (fun H locs hP hD hS => ?_)
  have hP : va_P D vwCl (rfW cI b (rs_th u 0)) H := hP
  have hD : va_D A (rfW cI b (rs_th u 0)) := hD
  refine lv_if_eq (tgt := 37) hx hb dX5_weight_10 (by decide) (fun cm => ?_) (fun cm => ?_)
  · replace cm : (isI q 0 (nI (r_n u) - 1)) = (0 : Int32) := cm
    refine lv_aload_n hx hb dX5_weight_37 rfl (lv_at hl 0 rfl) ?_
    refine lv_iconst (v := 1) hx hb dX5_weight_38 (by decide) ?_
    refine kIa (rVa (As := [.int 1]) (rest := []) ⟨hx, hb, hml, hown, hts⟩ (c_X5_no l D cI cL cM _ b (rs_th u 0) 1 ) (cwV 1 hts gX5_weight_X5_no rfl rfl rfl (by decide +kernel) ⟨(Nat.le_of_ble_eq_true rfl), (Nat.le_of_ble_eq_true rfl)⟩) hE hP hD hS hA 0 rfl rfl rfl hl.1 rfl (Nat.le_of_ble_eq_true rfl) dX5_weight_39 ⟨(Nat.le_of_ble_eq_true rfl), (Nat.le_of_ble_eq_true rfl)⟩) hS (fun H locs hP hD hS => ?_)
    have hP : va_P D vwCl (rfW cI b (rs_th (rs_th u 0) 1)) H := hP
    have hD : va_D A (rfW cI b (rs_th (rs_th u 0) 1)) := hD
    have hw9 : (rfW cI b (rs_th (rs_th u 0) 1)) = (rfW cI b (if isI q 0 (nI (r_n u) - 1) = 0 then (rs_th (rs_th u 0) 1) else if isI i 0 7 = 0 then (rs_th (rs_th u 0) 1) else (rs_th u 0))) := by first | (rw [if_pos cm]; try rfl) | (rw [if_neg cm, if_pos ci]; try rfl) | (rw [if_neg cm, if_neg ci]; try rfl)
    rw [hw9] at hP hD
    exact W.iret (v := (0)) hx hb hr (fun t ht hW => ⟨⟨(0), (), rfl, by (first | (rw [if_pos cm]) | (rw [if_neg cm, if_pos ci]) | (rw [if_neg cm, if_neg ci, hcl, hck]; try rfl)), by rw [ht]; exact hP, hD⟩, hS.F ht⟩) hS.2.2 dX5_weight_42
  · replace cm : ¬ (isI q 0 (nI (r_n u) - 1)) = (0 : Int32) := cm
    obtain ⟨hn6, hnd, hnd0, hsj⟩ := id hs
    obtain ⟨j, hjn, hq⟩ := isI0 (by omega) cm
    have hj6 : j < 6 := by omega
    have hcl := clN hq hj6 (Nat.le_of_ble_eq_true rfl)
    refine lv_iload_n hx hb dX5_weight_13 rfl (lv_at hl 2 rfl) ?_
    refine lv_iconst (v := 0) hx hb dX5_weight_14 (by decide) ?_
    refine lv_bipush (v := 7) hx hb dX5_weight_15 (by decide) ?_
    refine kI (rS (As := [.int i, .int 0, .int 7]) (rest := []) ⟨hx, hb, hml, hown, hts⟩ (c_X5_isIn l D cI cL cM _ i 0 7 ) (va_cwS 3 hts gX5_weight_X5_isIn rfl rfl rfl (by decide +kernel) ⟨(Nat.le_of_ble_eq_true rfl), (Nat.le_of_ble_eq_true rfl)⟩) hE hP hD [] rfl rfl rfl hl.1 rfl (Nat.le_of_ble_eq_true rfl) dX5_weight_17 ⟨(Nat.le_of_ble_eq_true rfl), (Nat.le_of_ble_eq_true rfl)⟩) hP hD hS hA (is := []) rfl rfl (fun H locs hP hD hS => ?_)
    rw [putW_nil] at hP hD
    have hP : va_P D vwCl (rfW cI b (rs_th u 0)) H := hP
    have hD : va_D A (rfW cI b (rs_th u 0)) := hD
    refine lv_if_eq (tgt := 37) hx hb dX5_weight_20 (by decide) (fun ci => ?_) (fun ci => ?_)
    · replace ci : (isI i 0 7) = (0 : Int32) := ci
      refine lv_aload_n hx hb dX5_weight_37 rfl (lv_at hl 0 rfl) ?_
      refine lv_iconst (v := 1) hx hb dX5_weight_38 (by decide) ?_
      refine kIa (rVa (As := [.int 1]) (rest := []) ⟨hx, hb, hml, hown, hts⟩ (c_X5_no l D cI cL cM _ b (rs_th u 0) 1 ) (cwV 1 hts gX5_weight_X5_no rfl rfl rfl (by decide +kernel) ⟨(Nat.le_of_ble_eq_true rfl), (Nat.le_of_ble_eq_true rfl)⟩) hE hP hD hS hA 0 rfl rfl rfl hl.1 rfl (Nat.le_of_ble_eq_true rfl) dX5_weight_39 ⟨(Nat.le_of_ble_eq_true rfl), (Nat.le_of_ble_eq_true rfl)⟩) hS (fun H locs hP hD hS => ?_)
      have hP : va_P D vwCl (rfW cI b (rs_th (rs_th u 0) 1)) H := hP
      have hD : va_D A (rfW cI b (rs_th (rs_th u 0) 1)) := hD
      have hw9 : (rfW cI b (rs_th (rs_th u 0) 1)) = (rfW cI b (if isI q 0 (nI (r_n u) - 1) = 0 then (rs_th (rs_th u 0) 1) else if isI i 0 7 = 0 then (rs_th (rs_th u 0) 1) else (rs_th u 0))) := by first | (rw [if_pos cm]; try rfl) | (rw [if_neg cm, if_pos ci]; try rfl) | (rw [if_neg cm, if_neg ci]; try rfl)
      rw [hw9] at hP hD
      exact W.iret (v := (0)) hx hb hr (fun t ht hW => ⟨⟨(0), (), rfl, by (first | (rw [if_pos cm]) | (rw [if_neg cm, if_pos ci]) | (rw [if_neg cm, if_neg ci, hcl, hck]; try rfl)), by rw [ht]; exact hP, hD⟩, hS.F ht⟩) hS.2.2 dX5_weight_42
    · replace ci : ¬ (isI i 0 7) = (0 : Int32) := ci
      obtain ⟨k, hk7, hk⟩ := isI1 (n := 7) (Nat.le_of_ble_eq_true rfl) ci
      have hk8 : k < 8 := by omega
      have hck := clN hk hk8 (Nat.le_of_ble_eq_true rfl)
      refine lv_aload_n hx hb dX5_weight_23 rfl (lv_at hl 0 rfl) ?_
      refine va_get (D := D) (ci := 5) (v := .ref (b 8)) (C := RX5) (T := TX5) (N := 22) hx hb hts (fun _ h => List.mem_cons_of_mem _ (List.mem_append_right _ h)) hown hK hP 0 rfl rfl 10 (by decide) (hts _ (List.mem_of_getElem? (i := 2) rfl)) (fun _ h9 => h9) rfl dX5_weight_24 ?_
      refine lv_bipush (v := 8) hx hb dX5_weight_27 (by decide) ?_
      refine lv_iload_n hx hb dX5_weight_29 rfl (lv_at hl 1 rfl) ?_
      refine topI (y := nI j) (hq) ?_
      refine lv_imul hx hb dX5_weight_30 ?_
      refine lv_iload_n hx hb dX5_weight_31 rfl (lv_at hl 2 rfl) ?_
      refine topI (y := nI k) (hk) ?_
      refine lv_iadd hx hb dX5_weight_32 ?_
      refine topI (y := nI (8 * j + k)) (wixN _ _) ?_
      refine ildN hx hb hK hP 8 0 rfl rfl (8 * j + k) (by omega) ((Nat.le_of_ble_eq_true rfl)) dX5_weight_33 ?_
      refine lv_goto (tgt := 42) hx hb dX5_weight_34 (by decide) ?_
      have hw9 : (rfW cI b (rs_th u 0)) = (rfW cI b (if isI q 0 (nI (r_n u) - 1) = 0 then (rs_th (rs_th u 0) 1) else if isI i 0 7 = 0 then (rs_th (rs_th u 0) 1) else (rs_th u 0))) := by first | (rw [if_pos cm]; try rfl) | (rw [if_neg cm, if_pos ci]; try rfl) | (rw [if_neg cm, if_neg ci]; try rfl)
      rw [hw9] at hP hD
      exact W.iret (v := (r_we u) (8 * j + k)) hx hb hr (fun t ht hW => ⟨⟨((r_we u) (8 * j + k)), (), rfl, by (first | (rw [if_pos cm]) | (rw [if_neg cm, if_pos ci]) | (rw [if_neg cm, if_neg ci, hcl, hck]; try rfl)), by rw [ht]; exact hP, hD⟩, hS.F ht⟩) hS.2.2 dX5_weight_42

set_option maxHeartbeats 4000000 in
set_option maxRecDepth 100000 in
theorem c_X5_setCode (l : Launch) (D : va_G) (cI cL cM : ClassId) (A : Nat → Prop) (b : Nat → Nat) (u : RS) (q v : Int32) (hb9 : r_cs u ≤ 3000) : mI l yX5_setCode wsX5_setCode ({ frames := 1, cells := 0, slots := 0, locals := 22 }) D (tB cI cL cM) A [.ref (b 0), .int q, .int v] (rfW cI b u) (if isI q 0 (nI (r_cs u) - 1) = 0 then 0 else if isI v 0 255 = 0 then 0 else r_cd u q.toNatClampNeg) (rfW cI b (if isI q 0 (nI (r_cs u) - 1) = 0 then (rs_th (rs_th u 0) 1) else if isI v 0 255 = 0 then (rs_th (rs_th u 0) 2) else (rs_cd (rs_th u 0) (upd (r_cd u) q.toNatClampNeg v)))) := by
  refine Met.ofW (cc := cX5_setCode) (maxL := 4) (ret := (some .int)) (by decide) rfl ?_
  intro p e s m args below meth c s₁ B hml hv
  obtain ⟨rfl, hP, hE, hD, hA⟩ := hv
  have hK := hE.1
  have hx := B.exec
  have hb := B.bytes
  have hr := B.returns
  have hts := atoms_spec (ws := wsX5_setCode) B.pre
  have hown : s.vm.findClass RX5 = some m.cls := findClass_of_methodNamed B.named
  have hlocks := B.notSynchronized
  have hS : va_S A s.heap s.heap [] := va_S.rf
  have hl := lv_entry ([.ref (b 0), .int q, .int v]) (n := 4) (Nat.le_of_ble_eq_true rfl)
  rw [lg_entry_eq]
  generalize (lg_sl ([.ref (b 0), .int q, .int v]) ++ List.replicate (4 - (lg_sl ([.ref (b 0), .int q, .int v])).length) Slot.unset).toArray = ls at hl ⊢
  have hl : lv_has ls 4 [(0, .ref (b 0)), (1, .int q), (2, .int v)] := hl
  refine lv_aload_n hx hb dX5_setCode_0 rfl (lv_at hl 0 rfl) ?_
  refine lv_iconst (v := 0) hx hb dX5_setCode_1 (by decide) ?_
  refine va_put (D := D) (ci := 5) (v := .int 0) (ty := .int) (C := RX5) (T := TX5) (N := 22) hx hb hts (fun _ h => List.mem_cons_of_mem _ (List.mem_append_right _ h)) tyX5 tyX5_ok nmX5 hown hK hP hD hS 0 rfl rfl 0 (by decide) (hts _ (List.mem_of_getElem? (i := 1) rfl)) (fun _ h9 => h9) rfl (by decide +kernel) rfl rfl (Nat.le_of_ble_eq_true rfl) dX5_setCode_2 (fun H locs hP hD hS => ?_)
  rw [rfW_th] at hP hD
  have hP : va_P D vwCl (rfW cI b (rs_th u 0)) H := hP
  have hD : va_D A (rfW cI b (rs_th u 0)) := hD
  refine lv_iload_n hx hb dX5_setCode_5 rfl (lv_at hl 1 rfl) ?_
  refine lv_iconst (v := 0) hx hb dX5_setCode_6 (by decide) ?_
  refine lv_aload_n hx hb dX5_setCode_7 rfl (lv_at hl 0 rfl) ?_
  refine va_get (D := D) (ci := 5) (v := .int (nI (r_cs u))) (C := RX5) (T := TX5) (N := 22) hx hb hts (fun _ h => List.mem_cons_of_mem _ (List.mem_append_right _ h)) hown hK hP 0 rfl rfl 16 (by decide) (hts _ (List.mem_of_getElem? (i := 2) rfl)) (fun _ h9 => h9) rfl dX5_setCode_8 ?_
  refine lv_iconst (v := 1) hx hb dX5_setCode_11 (by decide) ?_
  refine lv_isub hx hb dX5_setCode_12 ?_
  refine kI (rS (As := [.int q, .int 0, .int ((nI (r_cs u)) - 1)]) (rest := []) ⟨hx, hb, hml, hown, hts⟩ (c_X5_isIn l D cI cL cM _ q 0 ((nI (r_cs u)) - 1) ) (va_cwS 3 hts gX5_setCode_X5_isIn rfl rfl rfl (by decide +kernel) ⟨(Nat.le_of_ble_eq_true rfl), (Nat.le_of_ble_eq_true rfl)⟩) hE hP hD [] rfl rfl rfl hl.1 rfl (Nat.le_of_ble_eq_true rfl) dX5_setCode_13 ⟨(Nat.le_of_ble_eq_true rfl), (Nat.le_of_ble_eq_true rfl)⟩) hP hD hS hA (is := []) rfl rfl (fun H locs hP hD hS => ?_)
  rw [putW_nil] at hP hD
  have hP : va_P D vwCl (rfW cI b (rs_th u 0)) H := hP
  have hD : va_D A (rfW cI b (rs_th u 0)) := hD
  refine lv_if_ne (tgt := 25) hx hb dX5_setCode_16 (by decide) (fun cm => ?_) (fun cm => ?_)
  · replace cm : ¬ (isI q 0 ((nI (r_cs u)) - 1)) = (0 : Int32) := cm
    obtain ⟨j, hjn, hq⟩ := isI0 (Nat.lt_of_le_of_lt hb9 (Nat.le_of_ble_eq_true rfl)) cm
    have hjl := Nat.lt_of_lt_of_le hjn hb9
    have hcl := clN hq hjl (Nat.le_of_ble_eq_true rfl)
    refine lv_iload_n hx hb dX5_setCode_25 rfl (lv_at hl 2 rfl) ?_
    refine lv_iconst (v := 0) hx hb dX5_setCode_26 (by decide) ?_
    refine lv_sipush (v := 255) hx hb dX5_setCode_27 (by decide) ?_
    refine kI (rS (As := [.int v, .int 0, .int 255]) (rest := []) ⟨hx, hb, hml, hown, hts⟩ (c_X5_isIn l D cI cL cM _ v 0 255 ) (va_cwS 3 hts gX5_setCode_X5_isIn rfl rfl rfl (by decide +kernel) ⟨(Nat.le_of_ble_eq_true rfl), (Nat.le_of_ble_eq_true rfl)⟩) hE hP hD [] rfl rfl rfl hl.1 rfl (Nat.le_of_ble_eq_true rfl) dX5_setCode_30 ⟨(Nat.le_of_ble_eq_true rfl), (Nat.le_of_ble_eq_true rfl)⟩) hP hD hS hA (is := []) rfl rfl (fun H locs hP hD hS => ?_)
    rw [putW_nil] at hP hD
    have hP : va_P D vwCl (rfW cI b (rs_th u 0)) H := hP
    have hD : va_D A (rfW cI b (rs_th u 0)) := hD
    refine lv_if_ne (tgt := 42) hx hb dX5_setCode_33 (by decide) (fun ci => ?_) (fun ci => ?_)
    · replace ci : ¬ (isI v 0 255) = (0 : Int32) := ci
      refine lv_aload_n hx hb dX5_setCode_42 rfl (lv_at hl 0 rfl) ?_
      refine va_get (D := D) (ci := 5) (v := .ref (b 11)) (C := RX5) (T := TX5) (N := 22) hx hb hts (fun _ h => List.mem_cons_of_mem _ (List.mem_append_right _ h)) hown hK hP 0 rfl rfl 17 (by decide) (hts _ (List.mem_of_getElem? (i := 3) rfl)) (fun _ h9 => h9) rfl dX5_setCode_43 ?_
      refine lv_iload_n hx hb dX5_setCode_46 rfl (lv_at hl 1 rfl) ?_
      refine topI (y := nI j) (hq) ?_
      refine ildN hx hb hK hP 11 0 rfl rfl j (hjl) ((Nat.le_of_ble_eq_true rfl)) dX5_setCode_47 ?_
      refine lv_istore_n (lv' := [(3, .int ((r_cd u) j)), (0, .ref (b 0)), (1, .int q), (2, .int v)]) hx hb dX5_setCode_48 rfl hl (by decide) rfl (fun ls hl => ?_)
      refine lv_aload_n hx hb dX5_setCode_49 rfl (lv_at hl 1 rfl) ?_
      refine va_get (D := D) (ci := 5) (v := .ref (b 11)) (C := RX5) (T := TX5) (N := 22) hx hb hts (fun _ h => List.mem_cons_of_mem _ (List.mem_append_right _ h)) hown hK hP 0 rfl rfl 17 (by decide) (hts _ (List.mem_of_getElem? (i := 3) rfl)) (fun _ h9 => h9) rfl dX5_setCode_50 ?_
      refine lv_iload_n hx hb dX5_setCode_53 rfl (lv_at hl 2 rfl) ?_
      refine topI (y := nI j) (hq) ?_
      refine lv_iload_n hx hb dX5_setCode_54 rfl (lv_at hl 3 rfl) ?_
      refine istN hx hb hK hP hD hS 11 0 rfl rfl j (hjl) ((Nat.le_of_ble_eq_true rfl)) dX5_setCode_55 (fun H locs hP hD hS => ?_)
      rw [rfW_cd] at hP hD
      have hP : va_P D vwCl (rfW cI b (rs_cd (rs_th u 0) (upd (r_cd u) j v))) H := hP
      have hD : va_D A (rfW cI b (rs_cd (rs_th u 0) (upd (r_cd u) j v))) := hD
      refine lv_iload_n hx hb dX5_setCode_56 rfl (lv_at hl 0 rfl) ?_
      have hw9 : (rfW cI b (rs_cd (rs_th u 0) (upd (r_cd u) j v))) = (rfW cI b (if isI q 0 (nI (r_cs u) - 1) = 0 then (rs_th (rs_th u 0) 1) else if isI v 0 255 = 0 then (rs_th (rs_th u 0) 2) else (rs_cd (rs_th u 0) (upd (r_cd u) q.toNatClampNeg v)))) := by first | (rw [if_pos cm]; try rfl) | (rw [if_neg cm, if_pos ci]; try rfl) | (rw [if_neg cm, if_neg ci, hcl]; try rfl)
      rw [hw9] at hP hD
      exact W.iret (v := (r_cd u) j) hx hb hr (fun t ht hW => ⟨⟨((r_cd u) j), (), rfl, by (first | (rw [if_pos cm]) | (rw [if_neg cm, if_pos ci]) | (rw [if_neg cm, if_neg ci, hcl]; try rfl)), by rw [ht]; exact hP, hD⟩, hS.F ht⟩) hS.2.2 dX5_setCode_57
    · replace ci : (isI v 0 255) = (0 : Int32) := ci
      refine lv_aload_n hx hb dX5_setCode_36 rfl (lv_at hl 0 rfl) ?_
      refine lv_iconst (v := 2) hx hb dX5_setCode_37 (by decide) ?_
      refine kIa (rVa (As := [.int 2]) (rest := []) ⟨hx, hb, hml, hown, hts⟩ (c_X5_no l D cI cL cM _ b (rs_th u 0) 2 ) (cwV 1 hts gX5_setCode_X5_no rfl rfl rfl (by decide +kernel) ⟨(Nat.le_of_ble_eq_true rfl), (Nat.le_of_ble_eq_true rfl)⟩) hE hP hD hS hA 0 rfl rfl rfl hl.1 rfl (Nat.le_of_ble_eq_true rfl) dX5_setCode_38 ⟨(Nat.le_of_ble_eq_true rfl), (Nat.le_of_ble_eq_true rfl)⟩) hS (fun H locs hP hD hS => ?_)
      have hP : va_P D vwCl (rfW cI b (rs_th (rs_th u 0) 2)) H := hP
      have hD : va_D A (rfW cI b (rs_th (rs_th u 0) 2)) := hD
      have hw9 : (rfW cI b (rs_th (rs_th u 0) 2)) = (rfW cI b (if isI q 0 (nI (r_cs u) - 1) = 0 then (rs_th (rs_th u 0) 1) else if isI v 0 255 = 0 then (rs_th (rs_th u 0) 2) else (rs_cd (rs_th u 0) (upd (r_cd u) q.toNatClampNeg v)))) := by first | (rw [if_pos cm]; try rfl) | (rw [if_neg cm, if_pos ci]; try rfl) | (rw [if_neg cm, if_neg ci, hcl]; try rfl)
      rw [hw9] at hP hD
      exact W.iret (v := (0)) hx hb hr (fun t ht hW => ⟨⟨(0), (), rfl, by (first | (rw [if_pos cm]) | (rw [if_neg cm, if_pos ci]) | (rw [if_neg cm, if_neg ci, hcl]; try rfl)), by rw [ht]; exact hP, hD⟩, hS.F ht⟩) hS.2.2 dX5_setCode_41
  · replace cm : (isI q 0 ((nI (r_cs u)) - 1)) = (0 : Int32) := cm
    refine lv_aload_n hx hb dX5_setCode_19 rfl (lv_at hl 0 rfl) ?_
    refine lv_iconst (v := 1) hx hb dX5_setCode_20 (by decide) ?_
    refine kIa (rVa (As := [.int 1]) (rest := []) ⟨hx, hb, hml, hown, hts⟩ (c_X5_no l D cI cL cM _ b (rs_th u 0) 1 ) (cwV 1 hts gX5_setCode_X5_no rfl rfl rfl (by decide +kernel) ⟨(Nat.le_of_ble_eq_true rfl), (Nat.le_of_ble_eq_true rfl)⟩) hE hP hD hS hA 0 rfl rfl rfl hl.1 rfl (Nat.le_of_ble_eq_true rfl) dX5_setCode_21 ⟨(Nat.le_of_ble_eq_true rfl), (Nat.le_of_ble_eq_true rfl)⟩) hS (fun H locs hP hD hS => ?_)
    have hP : va_P D vwCl (rfW cI b (rs_th (rs_th u 0) 1)) H := hP
    have hD : va_D A (rfW cI b (rs_th (rs_th u 0) 1)) := hD
    have hw9 : (rfW cI b (rs_th (rs_th u 0) 1)) = (rfW cI b (if isI q 0 (nI (r_cs u) - 1) = 0 then (rs_th (rs_th u 0) 1) else if isI v 0 255 = 0 then (rs_th (rs_th u 0) 2) else (rs_cd (rs_th u 0) (upd (r_cd u) q.toNatClampNeg v)))) := by first | (rw [if_pos cm]; try rfl) | (rw [if_neg cm, if_pos ci]; try rfl) | (rw [if_neg cm, if_neg ci, hcl]; try rfl)
    rw [hw9] at hP hD
    exact W.iret (v := (0)) hx hb hr (fun t ht hW => ⟨⟨(0), (), rfl, by (first | (rw [if_pos cm]) | (rw [if_neg cm, if_pos ci]) | (rw [if_neg cm, if_neg ci, hcl]; try rfl)), by rw [ht]; exact hP, hD⟩, hS.F ht⟩) hS.2.2 dX5_setCode_24

set_option maxHeartbeats 4000000 in
set_option maxRecDepth 100000 in
theorem c_X5_cut (l : Launch) (D : va_G) (cI cL cM : ClassId) (A : Nat → Prop) (b : Nat → Nat) (u : RS) (q : Int32) (hb9 : r_sz u ≤ 80) : mI l yX5_cut wsX5_cut ({ frames := 1, cells := 0, slots := 0, locals := 22 }) D (tB cI cL cM) A [.ref (b 0), .int q] (rfW cI b u) (if isI q 0 (nI (r_sz u)) = 0 then 0 else nI (r_sz u - q.toNatClampNeg)) (rfW cI b (if isI q 0 (nI (r_sz u)) = 0 then (rs_th (rs_th u 0) 1) else (rs_sz (rs_th u 0) (r_sz u - q.toNatClampNeg)))) := by
  refine Met.ofW (cc := cX5_cut) (maxL := 2) (ret := (some .int)) (by decide) rfl ?_
  intro p e s m args below meth c s₁ B hml hv
  obtain ⟨rfl, hP, hE, hD, hA⟩ := hv
  have hK := hE.1
  have hx := B.exec
  have hb := B.bytes
  have hr := B.returns
  have hts := atoms_spec (ws := wsX5_cut) B.pre
  have hown : s.vm.findClass RX5 = some m.cls := findClass_of_methodNamed B.named
  have hlocks := B.notSynchronized
  have hS : va_S A s.heap s.heap [] := va_S.rf
  have hl := lv_entry ([.ref (b 0), .int q]) (n := 2) (Nat.le_of_ble_eq_true rfl)
  rw [lg_entry_eq]
  generalize (lg_sl ([.ref (b 0), .int q]) ++ List.replicate (2 - (lg_sl ([.ref (b 0), .int q])).length) Slot.unset).toArray = ls at hl ⊢
  have hl : lv_has ls 2 [(0, .ref (b 0)), (1, .int q)] := hl
  refine lv_aload_n hx hb dX5_cut_0 rfl (lv_at hl 0 rfl) ?_
  refine lv_iconst (v := 0) hx hb dX5_cut_1 (by decide) ?_
  refine va_put (D := D) (ci := 5) (v := .int 0) (ty := .int) (C := RX5) (T := TX5) (N := 22) hx hb hts (fun _ h => List.mem_cons_of_mem _ (List.mem_append_right _ h)) tyX5 tyX5_ok nmX5 hown hK hP hD hS 0 rfl rfl 0 (by decide) (hts _ (List.mem_of_getElem? (i := 1) rfl)) (fun _ h9 => h9) rfl (by decide +kernel) rfl rfl (Nat.le_of_ble_eq_true rfl) dX5_cut_2 (fun H locs hP hD hS => ?_)
  rw [rfW_th] at hP hD
  have hP : va_P D vwCl (rfW cI b (rs_th u 0)) H := hP
  have hD : va_D A (rfW cI b (rs_th u 0)) := hD
  refine lv_iload_n hx hb dX5_cut_5 rfl (lv_at hl 1 rfl) ?_
  refine lv_iconst (v := 0) hx hb dX5_cut_6 (by decide) ?_
  refine lv_aload_n hx hb dX5_cut_7 rfl (lv_at hl 0 rfl) ?_
  refine va_get (D := D) (ci := 5) (v := .int (nI (r_sz u))) (C := RX5) (T := TX5) (N := 22) hx hb hts (fun _ h => List.mem_cons_of_mem _ (List.mem_append_right _ h)) hown hK hP 0 rfl rfl 5 (by decide) (hts _ (List.mem_of_getElem? (i := 2) rfl)) (fun _ h9 => h9) rfl dX5_cut_8 ?_
  refine kI (rS (As := [.int q, .int 0, .int (nI (r_sz u))]) (rest := []) ⟨hx, hb, hml, hown, hts⟩ (c_X5_isIn l D cI cL cM _ q 0 (nI (r_sz u)) ) (va_cwS 3 hts gX5_cut_X5_isIn rfl rfl rfl (by decide +kernel) ⟨(Nat.le_of_ble_eq_true rfl), (Nat.le_of_ble_eq_true rfl)⟩) hE hP hD [] rfl rfl rfl hl.1 rfl (Nat.le_of_ble_eq_true rfl) dX5_cut_11 ⟨(Nat.le_of_ble_eq_true rfl), (Nat.le_of_ble_eq_true rfl)⟩) hP hD hS hA (is := []) rfl rfl (fun H locs hP hD hS => ?_)
  rw [putW_nil] at hP hD
  have hP : va_P D vwCl (rfW cI b (rs_th u 0)) H := hP
  have hD : va_D A (rfW cI b (rs_th u 0)) := hD
  refine lv_if_ne (tgt := 23) hx hb dX5_cut_14 (by decide) (fun cm => ?_) (fun cm => ?_)
  · replace cm : ¬ (isI q 0 (nI (r_sz u))) = (0 : Int32) := cm
    obtain ⟨j, hjn, hq⟩ := isI1 (Nat.lt_of_le_of_lt hb9 (Nat.le_of_ble_eq_true rfl)) cm
    have hcl : q.toNatClampNeg = j := by rw [hq]; exact nI_clamp (Nat.lt_of_le_of_lt (Nat.le_trans hjn hb9) (Nat.le_of_ble_eq_true rfl))
    refine lv_aload_n hx hb dX5_cut_23 rfl (lv_at hl 0 rfl) ?_
    refine lv_dup hx hb dX5_cut_24 rfl ?_
    refine va_get (D := D) (ci := 5) (v := .int (nI (r_sz u))) (C := RX5) (T := TX5) (N := 22) hx hb hts (fun _ h => List.mem_cons_of_mem _ (List.mem_append_right _ h)) hown hK hP 0 rfl rfl 5 (by decide) (hts _ (List.mem_of_getElem? (i := 2) rfl)) (fun _ h9 => h9) rfl dX5_cut_25 ?_
    refine lv_iload_n hx hb dX5_cut_28 rfl (lv_at hl 1 rfl) ?_
    refine lv_isub hx hb dX5_cut_29 ?_
    refine topI (y := nI (r_sz u - j)) (by rw [hq]; exact pk_sub hjn) ?_
    refine va_put (D := D) (ci := 5) (v := .int (nI (r_sz u - j))) (ty := .int) (C := RX5) (T := TX5) (N := 22) hx hb hts (fun _ h => List.mem_cons_of_mem _ (List.mem_append_right _ h)) tyX5 tyX5_ok nmX5 hown hK hP hD hS 0 rfl rfl 5 (by decide) (hts _ (List.mem_of_getElem? (i := 2) rfl)) (fun _ h9 => h9) rfl (by decide +kernel) rfl rfl (Nat.le_of_ble_eq_true rfl) dX5_cut_30 (fun H locs hP hD hS => ?_)
    rw [rfW_sz] at hP hD
    have hP : va_P D vwCl (rfW cI b (rs_sz (rs_th u 0) (r_sz u - j))) H := hP
    have hD : va_D A (rfW cI b (rs_sz (rs_th u 0) (r_sz u - j))) := hD
    refine lv_aload_n hx hb dX5_cut_33 rfl (lv_at hl 0 rfl) ?_
    refine va_get (D := D) (ci := 5) (v := .int (nI (r_sz u - j))) (C := RX5) (T := TX5) (N := 22) hx hb hts (fun _ h => List.mem_cons_of_mem _ (List.mem_append_right _ h)) hown hK hP 0 rfl rfl 5 (by decide) (hts _ (List.mem_of_getElem? (i := 2) rfl)) (fun _ h9 => h9) rfl dX5_cut_34 ?_
    have hw9 : (rfW cI b (rs_sz (rs_th u 0) (r_sz u - j))) = (rfW cI b (if isI q 0 (nI (r_sz u)) = 0 then (rs_th (rs_th u 0) 1) else (rs_sz (rs_th u 0) (r_sz u - q.toNatClampNeg)))) := by first | (rw [if_pos cm]; try rfl) | (rw [if_neg cm, hcl]; try rfl)
    rw [hw9] at hP hD
    exact W.iret (v := nI (r_sz u - j)) hx hb hr (fun t ht hW => ⟨⟨(nI (r_sz u - j)), (), rfl, by (first | (rw [if_pos cm]) | (rw [if_neg cm, hcl]; try rfl)), by rw [ht]; exact hP, hD⟩, hS.F ht⟩) hS.2.2 dX5_cut_37
  · replace cm : (isI q 0 (nI (r_sz u))) = (0 : Int32) := cm
    refine lv_aload_n hx hb dX5_cut_17 rfl (lv_at hl 0 rfl) ?_
    refine lv_iconst (v := 1) hx hb dX5_cut_18 (by decide) ?_
    refine kIa (rVa (As := [.int 1]) (rest := []) ⟨hx, hb, hml, hown, hts⟩ (c_X5_no l D cI cL cM _ b (rs_th u 0) 1 ) (cwV 1 hts gX5_cut_X5_no rfl rfl rfl (by decide +kernel) ⟨(Nat.le_of_ble_eq_true rfl), (Nat.le_of_ble_eq_true rfl)⟩) hE hP hD hS hA 0 rfl rfl rfl hl.1 rfl (Nat.le_of_ble_eq_true rfl) dX5_cut_19 ⟨(Nat.le_of_ble_eq_true rfl), (Nat.le_of_ble_eq_true rfl)⟩) hS (fun H locs hP hD hS => ?_)
    have hP : va_P D vwCl (rfW cI b (rs_th (rs_th u 0) 1)) H := hP
    have hD : va_D A (rfW cI b (rs_th (rs_th u 0) 1)) := hD
    have hw9 : (rfW cI b (rs_th (rs_th u 0) 1)) = (rfW cI b (if isI q 0 (nI (r_sz u)) = 0 then (rs_th (rs_th u 0) 1) else (rs_sz (rs_th u 0) (r_sz u - q.toNatClampNeg)))) := by first | (rw [if_pos cm]; try rfl) | (rw [if_neg cm, hcl]; try rfl)
    rw [hw9] at hP hD
    exact W.iret (v := (0)) hx hb hr (fun t ht hW => ⟨⟨(0), (), rfl, by (first | (rw [if_pos cm]) | (rw [if_neg cm, hcl]; try rfl)), by rw [ht]; exact hP, hD⟩, hS.F ht⟩) hS.2.2 dX5_cut_22

set_option maxHeartbeats 4000000 in
set_option maxRecDepth 100000 in
theorem c_X5_cutCode (l : Launch) (D : va_G) (cI cL cM : ClassId) (A : Nat → Prop) (b : Nat → Nat) (u : RS) (q : Int32) (hb9 : r_cs u ≤ 3000) : mI l yX5_cutCode wsX5_cutCode ({ frames := 1, cells := 0, slots := 0, locals := 22 }) D (tB cI cL cM) A [.ref (b 0), .int q] (rfW cI b u) (if isI q 0 (nI (r_cs u)) = 0 then 0 else nI (r_cs u - q.toNatClampNeg)) (rfW cI b (if isI q 0 (nI (r_cs u)) = 0 then (rs_th (rs_th u 0) 1) else (rs_cs (rs_th u 0) (r_cs u - q.toNatClampNeg)))) := by
  refine Met.ofW (cc := cX5_cutCode) (maxL := 2) (ret := (some .int)) (by decide) rfl ?_
  intro p e s m args below meth c s₁ B hml hv
  obtain ⟨rfl, hP, hE, hD, hA⟩ := hv
  have hK := hE.1
  have hx := B.exec
  have hb := B.bytes
  have hr := B.returns
  have hts := atoms_spec (ws := wsX5_cutCode) B.pre
  have hown : s.vm.findClass RX5 = some m.cls := findClass_of_methodNamed B.named
  have hlocks := B.notSynchronized
  have hS : va_S A s.heap s.heap [] := va_S.rf
  have hl := lv_entry ([.ref (b 0), .int q]) (n := 2) (Nat.le_of_ble_eq_true rfl)
  rw [lg_entry_eq]
  generalize (lg_sl ([.ref (b 0), .int q]) ++ List.replicate (2 - (lg_sl ([.ref (b 0), .int q])).length) Slot.unset).toArray = ls at hl ⊢
  have hl : lv_has ls 2 [(0, .ref (b 0)), (1, .int q)] := hl
  refine lv_aload_n hx hb dX5_cutCode_0 rfl (lv_at hl 0 rfl) ?_
  refine lv_iconst (v := 0) hx hb dX5_cutCode_1 (by decide) ?_
  refine va_put (D := D) (ci := 5) (v := .int 0) (ty := .int) (C := RX5) (T := TX5) (N := 22) hx hb hts (fun _ h => List.mem_cons_of_mem _ (List.mem_append_right _ h)) tyX5 tyX5_ok nmX5 hown hK hP hD hS 0 rfl rfl 0 (by decide) (hts _ (List.mem_of_getElem? (i := 1) rfl)) (fun _ h9 => h9) rfl (by decide +kernel) rfl rfl (Nat.le_of_ble_eq_true rfl) dX5_cutCode_2 (fun H locs hP hD hS => ?_)
  rw [rfW_th] at hP hD
  have hP : va_P D vwCl (rfW cI b (rs_th u 0)) H := hP
  have hD : va_D A (rfW cI b (rs_th u 0)) := hD
  refine lv_iload_n hx hb dX5_cutCode_5 rfl (lv_at hl 1 rfl) ?_
  refine lv_iconst (v := 0) hx hb dX5_cutCode_6 (by decide) ?_
  refine lv_aload_n hx hb dX5_cutCode_7 rfl (lv_at hl 0 rfl) ?_
  refine va_get (D := D) (ci := 5) (v := .int (nI (r_cs u))) (C := RX5) (T := TX5) (N := 22) hx hb hts (fun _ h => List.mem_cons_of_mem _ (List.mem_append_right _ h)) hown hK hP 0 rfl rfl 16 (by decide) (hts _ (List.mem_of_getElem? (i := 2) rfl)) (fun _ h9 => h9) rfl dX5_cutCode_8 ?_
  refine kI (rS (As := [.int q, .int 0, .int (nI (r_cs u))]) (rest := []) ⟨hx, hb, hml, hown, hts⟩ (c_X5_isIn l D cI cL cM _ q 0 (nI (r_cs u)) ) (va_cwS 3 hts gX5_cutCode_X5_isIn rfl rfl rfl (by decide +kernel) ⟨(Nat.le_of_ble_eq_true rfl), (Nat.le_of_ble_eq_true rfl)⟩) hE hP hD [] rfl rfl rfl hl.1 rfl (Nat.le_of_ble_eq_true rfl) dX5_cutCode_11 ⟨(Nat.le_of_ble_eq_true rfl), (Nat.le_of_ble_eq_true rfl)⟩) hP hD hS hA (is := []) rfl rfl (fun H locs hP hD hS => ?_)
  rw [putW_nil] at hP hD
  have hP : va_P D vwCl (rfW cI b (rs_th u 0)) H := hP
  have hD : va_D A (rfW cI b (rs_th u 0)) := hD
  refine lv_if_ne (tgt := 23) hx hb dX5_cutCode_14 (by decide) (fun cm => ?_) (fun cm => ?_)
  · replace cm : ¬ (isI q 0 (nI (r_cs u))) = (0 : Int32) := cm
    obtain ⟨j, hjn, hq⟩ := isI1 (Nat.lt_of_le_of_lt hb9 (Nat.le_of_ble_eq_true rfl)) cm
    have hcl : q.toNatClampNeg = j := by rw [hq]; exact nI_clamp (Nat.lt_of_le_of_lt (Nat.le_trans hjn hb9) (Nat.le_of_ble_eq_true rfl))
    refine lv_aload_n hx hb dX5_cutCode_23 rfl (lv_at hl 0 rfl) ?_
    refine lv_dup hx hb dX5_cutCode_24 rfl ?_
    refine va_get (D := D) (ci := 5) (v := .int (nI (r_cs u))) (C := RX5) (T := TX5) (N := 22) hx hb hts (fun _ h => List.mem_cons_of_mem _ (List.mem_append_right _ h)) hown hK hP 0 rfl rfl 16 (by decide) (hts _ (List.mem_of_getElem? (i := 2) rfl)) (fun _ h9 => h9) rfl dX5_cutCode_25 ?_
    refine lv_iload_n hx hb dX5_cutCode_28 rfl (lv_at hl 1 rfl) ?_
    refine lv_isub hx hb dX5_cutCode_29 ?_
    refine topI (y := nI (r_cs u - j)) (by rw [hq]; exact pk_sub hjn) ?_
    refine va_put (D := D) (ci := 5) (v := .int (nI (r_cs u - j))) (ty := .int) (C := RX5) (T := TX5) (N := 22) hx hb hts (fun _ h => List.mem_cons_of_mem _ (List.mem_append_right _ h)) tyX5 tyX5_ok nmX5 hown hK hP hD hS 0 rfl rfl 16 (by decide) (hts _ (List.mem_of_getElem? (i := 2) rfl)) (fun _ h9 => h9) rfl (by decide +kernel) rfl rfl (Nat.le_of_ble_eq_true rfl) dX5_cutCode_30 (fun H locs hP hD hS => ?_)
    rw [rfW_cs] at hP hD
    have hP : va_P D vwCl (rfW cI b (rs_cs (rs_th u 0) (r_cs u - j))) H := hP
    have hD : va_D A (rfW cI b (rs_cs (rs_th u 0) (r_cs u - j))) := hD
    refine lv_aload_n hx hb dX5_cutCode_33 rfl (lv_at hl 0 rfl) ?_
    refine va_get (D := D) (ci := 5) (v := .int (nI (r_cs u - j))) (C := RX5) (T := TX5) (N := 22) hx hb hts (fun _ h => List.mem_cons_of_mem _ (List.mem_append_right _ h)) hown hK hP 0 rfl rfl 16 (by decide) (hts _ (List.mem_of_getElem? (i := 2) rfl)) (fun _ h9 => h9) rfl dX5_cutCode_34 ?_
    have hw9 : (rfW cI b (rs_cs (rs_th u 0) (r_cs u - j))) = (rfW cI b (if isI q 0 (nI (r_cs u)) = 0 then (rs_th (rs_th u 0) 1) else (rs_cs (rs_th u 0) (r_cs u - q.toNatClampNeg)))) := by first | (rw [if_pos cm]; try rfl) | (rw [if_neg cm, hcl]; try rfl)
    rw [hw9] at hP hD
    exact W.iret (v := nI (r_cs u - j)) hx hb hr (fun t ht hW => ⟨⟨(nI (r_cs u - j)), (), rfl, by (first | (rw [if_pos cm]) | (rw [if_neg cm, hcl]; try rfl)), by rw [ht]; exact hP, hD⟩, hS.F ht⟩) hS.2.2 dX5_cutCode_37
  · replace cm : (isI q 0 (nI (r_cs u))) = (0 : Int32) := cm
    refine lv_aload_n hx hb dX5_cutCode_17 rfl (lv_at hl 0 rfl) ?_
    refine lv_iconst (v := 1) hx hb dX5_cutCode_18 (by decide) ?_
    refine kIa (rVa (As := [.int 1]) (rest := []) ⟨hx, hb, hml, hown, hts⟩ (c_X5_no l D cI cL cM _ b (rs_th u 0) 1 ) (cwV 1 hts gX5_cutCode_X5_no rfl rfl rfl (by decide +kernel) ⟨(Nat.le_of_ble_eq_true rfl), (Nat.le_of_ble_eq_true rfl)⟩) hE hP hD hS hA 0 rfl rfl rfl hl.1 rfl (Nat.le_of_ble_eq_true rfl) dX5_cutCode_19 ⟨(Nat.le_of_ble_eq_true rfl), (Nat.le_of_ble_eq_true rfl)⟩) hS (fun H locs hP hD hS => ?_)
    have hP : va_P D vwCl (rfW cI b (rs_th (rs_th u 0) 1)) H := hP
    have hD : va_D A (rfW cI b (rs_th (rs_th u 0) 1)) := hD
    have hw9 : (rfW cI b (rs_th (rs_th u 0) 1)) = (rfW cI b (if isI q 0 (nI (r_cs u)) = 0 then (rs_th (rs_th u 0) 1) else (rs_cs (rs_th u 0) (r_cs u - q.toNatClampNeg)))) := by first | (rw [if_pos cm]; try rfl) | (rw [if_neg cm, hcl]; try rfl)
    rw [hw9] at hP hD
    exact W.iret (v := (0)) hx hb hr (fun t ht hW => ⟨⟨(0), (), rfl, by (first | (rw [if_pos cm]) | (rw [if_neg cm, hcl]; try rfl)), by rw [ht]; exact hP, hD⟩, hS.F ht⟩) hS.2.2 dX5_cutCode_22

def r_add (x y t : Int32) (u : RS) : RS := r_clr (rs_n (rs_lo (rs_ra (rs_od (rs_th u 0) (upd (r_od u) (r_n u) x)) (upd (r_ra u) (r_n u) y)) (upd (r_lo u) (r_n u) t)) (r_n u + 1))

set_option maxHeartbeats 4000000 in
set_option maxRecDepth 100000 in
theorem c_X5_addModel (l : Launch) (D : va_G) (cI cL cM : ClassId) (A : Nat → Prop) (b : Nat → Nat) (u : RS) (x y t3 : Int32) (hn6 : r_n u ≤ 6) : mI l yX5_addModel wsX5_addModel ({ frames := 1, cells := 0, slots := 0, locals := 22 }) D (tB cI cL cM) A [.ref (b 0), .int x, .int y, .int t3] (rfW cI b u) (if isI x 0 3 = 0 then 0 else if isI y 2 7 = 0 then 0 else if isI t3 4 9 = 0 then 0 else if r_n u = 6 then 0 else nI (r_n u)) (rfW cI b (if isI x 0 3 = 0 then (rs_th (rs_th u 0) 1) else if isI y 2 7 = 0 then (rs_th (rs_th u 0) 1) else if isI t3 4 9 = 0 then (rs_th (rs_th u 0) 1) else if r_n u = 6 then (rs_th (rs_th u 0) 2) else r_add x y t3 u)) := by
  refine Met.ofW (cc := cX5_addModel) (maxL := 4) (ret := (some .int)) (by decide) rfl ?_
  intro p e s m args below meth c s₁ B hml hv
  obtain ⟨rfl, hP, hE, hD, hA⟩ := hv
  have hK := hE.1
  have hx := B.exec
  have hb := B.bytes
  have hr := B.returns
  have hts := atoms_spec (ws := wsX5_addModel) B.pre
  have hown : s.vm.findClass RX5 = some m.cls := findClass_of_methodNamed B.named
  have hlocks := B.notSynchronized
  have hS : va_S A s.heap s.heap [] := va_S.rf
  have hl := lv_entry ([.ref (b 0), .int x, .int y, .int t3]) (n := 4) (Nat.le_of_ble_eq_true rfl)
  rw [lg_entry_eq]
  generalize (lg_sl ([.ref (b 0), .int x, .int y, .int t3]) ++ List.replicate (4 - (lg_sl ([.ref (b 0), .int x, .int y, .int t3])).length) Slot.unset).toArray = ls at hl ⊢
  have hl : lv_has ls 4 [(0, .ref (b 0)), (1, .int x), (2, .int y), (3, .int t3)] := hl
  refine lv_aload_n hx hb dX5_addModel_0 rfl (lv_at hl 0 rfl) ?_
  refine lv_iconst (v := 0) hx hb dX5_addModel_1 (by decide) ?_
  refine va_put (D := D) (ci := 5) (v := .int 0) (ty := .int) (C := RX5) (T := TX5) (N := 22) hx hb hts (fun _ h => List.mem_cons_of_mem _ (List.mem_append_right _ h)) tyX5 tyX5_ok nmX5 hown hK hP hD hS 0 rfl rfl 0 (by decide) (hts _ (List.mem_of_getElem? (i := 1) rfl)) (fun _ h9 => h9) rfl (by decide +kernel) rfl rfl (Nat.le_of_ble_eq_true rfl) dX5_addModel_2 (fun H locs hP hD hS => ?_)
  rw [rfW_th] at hP hD
  have hP : va_P D vwCl (rfW cI b (rs_th u 0)) H := hP
  have hD : va_D A (rfW cI b (rs_th u 0)) := hD
  refine lv_iload_n hx hb dX5_addModel_5 rfl (lv_at hl 1 rfl) ?_
  refine lv_iconst (v := 0) hx hb dX5_addModel_6 (by decide) ?_
  refine lv_iconst (v := 3) hx hb dX5_addModel_7 (by decide) ?_
  refine kI (rS (As := [.int x, .int 0, .int 3]) (rest := []) ⟨hx, hb, hml, hown, hts⟩ (c_X5_isIn l D cI cL cM _ x 0 3 ) (va_cwS 3 hts gX5_addModel_X5_isIn rfl rfl rfl (by decide +kernel) ⟨(Nat.le_of_ble_eq_true rfl), (Nat.le_of_ble_eq_true rfl)⟩) hE hP hD [] rfl rfl rfl hl.1 rfl (Nat.le_of_ble_eq_true rfl) dX5_addModel_8 ⟨(Nat.le_of_ble_eq_true rfl), (Nat.le_of_ble_eq_true rfl)⟩) hP hD hS hA (is := []) rfl rfl (fun H locs hP hD hS => ?_)
  rw [putW_nil] at hP hD
  have hP : va_P D vwCl (rfW cI b (rs_th u 0)) H := hP
  have hD : va_D A (rfW cI b (rs_th u 0)) := hD
  refine lv_if_eq (tgt := 34) hx hb dX5_addModel_11 (by decide) (fun ca => ?_) (fun ca => ?_)
  · replace ca : (isI x 0 3) = (0 : Int32) := ca
    refine lv_aload_n hx hb dX5_addModel_34 rfl (lv_at hl 0 rfl) ?_
    refine lv_iconst (v := 1) hx hb dX5_addModel_35 (by decide) ?_
    refine kIa (rVa (As := [.int 1]) (rest := []) ⟨hx, hb, hml, hown, hts⟩ (c_X5_no l D cI cL cM _ b (rs_th u 0) 1 ) (cwV 1 hts gX5_addModel_X5_no rfl rfl rfl (by decide +kernel) ⟨(Nat.le_of_ble_eq_true rfl), (Nat.le_of_ble_eq_true rfl)⟩) hE hP hD hS hA 0 rfl rfl rfl hl.1 rfl (Nat.le_of_ble_eq_true rfl) dX5_addModel_36 ⟨(Nat.le_of_ble_eq_true rfl), (Nat.le_of_ble_eq_true rfl)⟩) hS (fun H locs hP hD hS => ?_)
    have hP : va_P D vwCl (rfW cI b (rs_th (rs_th u 0) 1)) H := hP
    have hD : va_D A (rfW cI b (rs_th (rs_th u 0) 1)) := hD
    have hw9 : (rfW cI b (rs_th (rs_th u 0) 1)) = (rfW cI b (if isI x 0 3 = 0 then (rs_th (rs_th u 0) 1) else if isI y 2 7 = 0 then (rs_th (rs_th u 0) 1) else if isI t3 4 9 = 0 then (rs_th (rs_th u 0) 1) else if r_n u = 6 then (rs_th (rs_th u 0) 2) else r_add x y t3 u)) := by first | (rw [if_pos ca]; try rfl) | (rw [if_neg ca, if_pos cb]; try rfl) | (rw [if_neg ca, if_neg cb, if_pos cd]; try rfl) | (rw [if_neg ca, if_neg cb, if_neg cd, if_pos cf]; try rfl) | (rw [if_neg ca, if_neg cb, if_neg cd, if_neg cf]; try rfl)
    rw [hw9] at hP hD
    exact W.iret (v := (0)) hx hb hr (fun t ht hW => ⟨⟨(0), (), rfl, by (first | (rw [if_pos ca]) | (rw [if_neg ca, if_pos cb]) | (rw [if_neg ca, if_neg cb, if_pos cd]) | (rw [if_neg ca, if_neg cb, if_neg cd, if_pos cf]) | (rw [if_neg ca, if_neg cb, if_neg cd, if_neg cf, r_clr_n]; exact pk_m1s _)), by rw [ht]; exact hP, hD⟩, hS.F ht⟩) hS.2.2 dX5_addModel_39
  · replace ca : ¬ (isI x 0 3) = (0 : Int32) := ca
    refine lv_iload_n hx hb dX5_addModel_14 rfl (lv_at hl 2 rfl) ?_
    refine lv_iconst (v := 2) hx hb dX5_addModel_15 (by decide) ?_
    refine lv_bipush (v := 7) hx hb dX5_addModel_16 (by decide) ?_
    refine kI (rS (As := [.int y, .int 2, .int 7]) (rest := []) ⟨hx, hb, hml, hown, hts⟩ (c_X5_isIn l D cI cL cM _ y 2 7 ) (va_cwS 3 hts gX5_addModel_X5_isIn rfl rfl rfl (by decide +kernel) ⟨(Nat.le_of_ble_eq_true rfl), (Nat.le_of_ble_eq_true rfl)⟩) hE hP hD [] rfl rfl rfl hl.1 rfl (Nat.le_of_ble_eq_true rfl) dX5_addModel_18 ⟨(Nat.le_of_ble_eq_true rfl), (Nat.le_of_ble_eq_true rfl)⟩) hP hD hS hA (is := []) rfl rfl (fun H locs hP hD hS => ?_)
    rw [putW_nil] at hP hD
    have hP : va_P D vwCl (rfW cI b (rs_th u 0)) H := hP
    have hD : va_D A (rfW cI b (rs_th u 0)) := hD
    refine lv_if_eq (tgt := 34) hx hb dX5_addModel_21 (by decide) (fun cb => ?_) (fun cb => ?_)
    · replace cb : (isI y 2 7) = (0 : Int32) := cb
      refine lv_aload_n hx hb dX5_addModel_34 rfl (lv_at hl 0 rfl) ?_
      refine lv_iconst (v := 1) hx hb dX5_addModel_35 (by decide) ?_
      refine kIa (rVa (As := [.int 1]) (rest := []) ⟨hx, hb, hml, hown, hts⟩ (c_X5_no l D cI cL cM _ b (rs_th u 0) 1 ) (cwV 1 hts gX5_addModel_X5_no rfl rfl rfl (by decide +kernel) ⟨(Nat.le_of_ble_eq_true rfl), (Nat.le_of_ble_eq_true rfl)⟩) hE hP hD hS hA 0 rfl rfl rfl hl.1 rfl (Nat.le_of_ble_eq_true rfl) dX5_addModel_36 ⟨(Nat.le_of_ble_eq_true rfl), (Nat.le_of_ble_eq_true rfl)⟩) hS (fun H locs hP hD hS => ?_)
      have hP : va_P D vwCl (rfW cI b (rs_th (rs_th u 0) 1)) H := hP
      have hD : va_D A (rfW cI b (rs_th (rs_th u 0) 1)) := hD
      have hw9 : (rfW cI b (rs_th (rs_th u 0) 1)) = (rfW cI b (if isI x 0 3 = 0 then (rs_th (rs_th u 0) 1) else if isI y 2 7 = 0 then (rs_th (rs_th u 0) 1) else if isI t3 4 9 = 0 then (rs_th (rs_th u 0) 1) else if r_n u = 6 then (rs_th (rs_th u 0) 2) else r_add x y t3 u)) := by first | (rw [if_pos ca]; try rfl) | (rw [if_neg ca, if_pos cb]; try rfl) | (rw [if_neg ca, if_neg cb, if_pos cd]; try rfl) | (rw [if_neg ca, if_neg cb, if_neg cd, if_pos cf]; try rfl) | (rw [if_neg ca, if_neg cb, if_neg cd, if_neg cf]; try rfl)
      rw [hw9] at hP hD
      exact W.iret (v := (0)) hx hb hr (fun t ht hW => ⟨⟨(0), (), rfl, by (first | (rw [if_pos ca]) | (rw [if_neg ca, if_pos cb]) | (rw [if_neg ca, if_neg cb, if_pos cd]) | (rw [if_neg ca, if_neg cb, if_neg cd, if_pos cf]) | (rw [if_neg ca, if_neg cb, if_neg cd, if_neg cf, r_clr_n]; exact pk_m1s _)), by rw [ht]; exact hP, hD⟩, hS.F ht⟩) hS.2.2 dX5_addModel_39
    · replace cb : ¬ (isI y 2 7) = (0 : Int32) := cb
      refine lv_iload_n hx hb dX5_addModel_24 rfl (lv_at hl 3 rfl) ?_
      refine lv_iconst (v := 4) hx hb dX5_addModel_25 (by decide) ?_
      refine lv_bipush (v := 9) hx hb dX5_addModel_26 (by decide) ?_
      refine kI (rS (As := [.int t3, .int 4, .int 9]) (rest := []) ⟨hx, hb, hml, hown, hts⟩ (c_X5_isIn l D cI cL cM _ t3 4 9 ) (va_cwS 3 hts gX5_addModel_X5_isIn rfl rfl rfl (by decide +kernel) ⟨(Nat.le_of_ble_eq_true rfl), (Nat.le_of_ble_eq_true rfl)⟩) hE hP hD [] rfl rfl rfl hl.1 rfl (Nat.le_of_ble_eq_true rfl) dX5_addModel_28 ⟨(Nat.le_of_ble_eq_true rfl), (Nat.le_of_ble_eq_true rfl)⟩) hP hD hS hA (is := []) rfl rfl (fun H locs hP hD hS => ?_)
      rw [putW_nil] at hP hD
      have hP : va_P D vwCl (rfW cI b (rs_th u 0)) H := hP
      have hD : va_D A (rfW cI b (rs_th u 0)) := hD
      refine lv_if_ne (tgt := 40) hx hb dX5_addModel_31 (by decide) (fun cd => ?_) (fun cd => ?_)
      · replace cd : ¬ (isI t3 4 9) = (0 : Int32) := cd
        refine lv_aload_n hx hb dX5_addModel_40 rfl (lv_at hl 0 rfl) ?_
        refine va_get (D := D) (ci := 5) (v := .int (nI (r_n u))) (C := RX5) (T := TX5) (N := 22) hx hb hts (fun _ h => List.mem_cons_of_mem _ (List.mem_append_right _ h)) hown hK hP 0 rfl rfl 1 (by decide) (hts _ (List.mem_of_getElem? (i := 2) rfl)) (fun _ h9 => h9) rfl dX5_addModel_41 ?_
        refine lv_bipush (v := 6) hx hb dX5_addModel_44 (by decide) ?_
        refine lv_icmp_ne (tgt := 55) hx hb dX5_addModel_46 (by decide) (fun cn => ?_) (fun cn => ?_)
        · replace cn : ¬ (nI (r_n u)) = (6 : Int32) := cn
          have cf : ¬ r_n u = 6 := fun h9 => cn (by rw [h9]; rfl)
          have hn5 : r_n u < 6 := by omega
          refine lv_aload_n hx hb dX5_addModel_55 rfl (lv_at hl 0 rfl) ?_
          refine va_get (D := D) (ci := 5) (v := .ref (b 1)) (C := RX5) (T := TX5) (N := 22) hx hb hts (fun _ h => List.mem_cons_of_mem _ (List.mem_append_right _ h)) hown hK hP 0 rfl rfl 2 (by decide) (hts _ (List.mem_of_getElem? (i := 3) rfl)) (fun _ h9 => h9) rfl dX5_addModel_56 ?_
          refine lv_aload_n hx hb dX5_addModel_59 rfl (lv_at hl 0 rfl) ?_
          refine va_get (D := D) (ci := 5) (v := .int (nI (r_n u))) (C := RX5) (T := TX5) (N := 22) hx hb hts (fun _ h => List.mem_cons_of_mem _ (List.mem_append_right _ h)) hown hK hP 0 rfl rfl 1 (by decide) (hts _ (List.mem_of_getElem? (i := 2) rfl)) (fun _ h9 => h9) rfl dX5_addModel_60 ?_
          refine lv_iload_n hx hb dX5_addModel_63 rfl (lv_at hl 1 rfl) ?_
          refine istN hx hb hK hP hD hS 1 0 rfl rfl (r_n u) (hn5) ((Nat.le_of_ble_eq_true rfl)) dX5_addModel_64 (fun H locs hP hD hS => ?_)
          rw [rfW_od] at hP hD
          have hP : va_P D vwCl (rfW cI b (rs_od (rs_th u 0) (upd (r_od u) (r_n u) x))) H := hP
          have hD : va_D A (rfW cI b (rs_od (rs_th u 0) (upd (r_od u) (r_n u) x))) := hD
          refine lv_aload_n hx hb dX5_addModel_65 rfl (lv_at hl 0 rfl) ?_
          refine va_get (D := D) (ci := 5) (v := .ref (b 2)) (C := RX5) (T := TX5) (N := 22) hx hb hts (fun _ h => List.mem_cons_of_mem _ (List.mem_append_right _ h)) hown hK hP 0 rfl rfl 3 (by decide) (hts _ (List.mem_of_getElem? (i := 4) rfl)) (fun _ h9 => h9) rfl dX5_addModel_66 ?_
          refine lv_aload_n hx hb dX5_addModel_69 rfl (lv_at hl 0 rfl) ?_
          refine va_get (D := D) (ci := 5) (v := .int (nI (r_n u))) (C := RX5) (T := TX5) (N := 22) hx hb hts (fun _ h => List.mem_cons_of_mem _ (List.mem_append_right _ h)) hown hK hP 0 rfl rfl 1 (by decide) (hts _ (List.mem_of_getElem? (i := 2) rfl)) (fun _ h9 => h9) rfl dX5_addModel_70 ?_
          refine lv_iload_n hx hb dX5_addModel_73 rfl (lv_at hl 2 rfl) ?_
          refine istN hx hb hK hP hD hS 2 0 rfl rfl (r_n u) (hn5) ((Nat.le_of_ble_eq_true rfl)) dX5_addModel_74 (fun H locs hP hD hS => ?_)
          rw [rfW_ra] at hP hD
          have hP : va_P D vwCl (rfW cI b (rs_ra (rs_od (rs_th u 0) (upd (r_od u) (r_n u) x)) (upd (r_ra u) (r_n u) y))) H := hP
          have hD : va_D A (rfW cI b (rs_ra (rs_od (rs_th u 0) (upd (r_od u) (r_n u) x)) (upd (r_ra u) (r_n u) y))) := hD
          refine lv_aload_n hx hb dX5_addModel_75 rfl (lv_at hl 0 rfl) ?_
          refine va_get (D := D) (ci := 5) (v := .ref (b 3)) (C := RX5) (T := TX5) (N := 22) hx hb hts (fun _ h => List.mem_cons_of_mem _ (List.mem_append_right _ h)) hown hK hP 0 rfl rfl 4 (by decide) (hts _ (List.mem_of_getElem? (i := 5) rfl)) (fun _ h9 => h9) rfl dX5_addModel_76 ?_
          refine lv_aload_n hx hb dX5_addModel_79 rfl (lv_at hl 0 rfl) ?_
          refine va_get (D := D) (ci := 5) (v := .int (nI (r_n u))) (C := RX5) (T := TX5) (N := 22) hx hb hts (fun _ h => List.mem_cons_of_mem _ (List.mem_append_right _ h)) hown hK hP 0 rfl rfl 1 (by decide) (hts _ (List.mem_of_getElem? (i := 2) rfl)) (fun _ h9 => h9) rfl dX5_addModel_80 ?_
          refine lv_iload_n hx hb dX5_addModel_83 rfl (lv_at hl 3 rfl) ?_
          refine istN hx hb hK hP hD hS 3 0 rfl rfl (r_n u) (hn5) ((Nat.le_of_ble_eq_true rfl)) dX5_addModel_84 (fun H locs hP hD hS => ?_)
          rw [rfW_lo] at hP hD
          have hP : va_P D vwCl (rfW cI b (rs_lo (rs_ra (rs_od (rs_th u 0) (upd (r_od u) (r_n u) x)) (upd (r_ra u) (r_n u) y)) (upd (r_lo u) (r_n u) t3))) H := hP
          have hD : va_D A (rfW cI b (rs_lo (rs_ra (rs_od (rs_th u 0) (upd (r_od u) (r_n u) x)) (upd (r_ra u) (r_n u) y)) (upd (r_lo u) (r_n u) t3))) := hD
          refine lv_aload_n hx hb dX5_addModel_85 rfl (lv_at hl 0 rfl) ?_
          refine lv_dup hx hb dX5_addModel_86 rfl ?_
          refine va_get (D := D) (ci := 5) (v := .int (nI (r_n u))) (C := RX5) (T := TX5) (N := 22) hx hb hts (fun _ h => List.mem_cons_of_mem _ (List.mem_append_right _ h)) hown hK hP 0 rfl rfl 1 (by decide) (hts _ (List.mem_of_getElem? (i := 2) rfl)) (fun _ h9 => h9) rfl dX5_addModel_87 ?_
          refine lv_iconst (v := 1) hx hb dX5_addModel_90 (by decide) ?_
          refine lv_iadd hx hb dX5_addModel_91 ?_
          refine topI (y := nI ((r_n u) + 1)) (nI_1 _) ?_
          refine va_put (D := D) (ci := 5) (v := .int (nI ((r_n u) + 1))) (ty := .int) (C := RX5) (T := TX5) (N := 22) hx hb hts (fun _ h => List.mem_cons_of_mem _ (List.mem_append_right _ h)) tyX5 tyX5_ok nmX5 hown hK hP hD hS 0 rfl rfl 1 (by decide) (hts _ (List.mem_of_getElem? (i := 2) rfl)) (fun _ h9 => h9) rfl (by decide +kernel) rfl rfl (Nat.le_of_ble_eq_true rfl) dX5_addModel_92 (fun H locs hP hD hS => ?_)
          rw [rfW_n] at hP hD
          have hP : va_P D vwCl (rfW cI b (rs_n (rs_lo (rs_ra (rs_od (rs_th u 0) (upd (r_od u) (r_n u) x)) (upd (r_ra u) (r_n u) y)) (upd (r_lo u) (r_n u) t3)) ((r_n u) + 1))) H := hP
          have hD : va_D A (rfW cI b (rs_n (rs_lo (rs_ra (rs_od (rs_th u 0) (upd (r_od u) (r_n u) x)) (upd (r_ra u) (r_n u) y)) (upd (r_lo u) (r_n u) t3)) ((r_n u) + 1))) := hD
          refine lv_aload_n hx hb dX5_addModel_95 rfl (lv_at hl 0 rfl) ?_
          refine kVa (rVa (As := []) (rest := []) ⟨hx, hb, hml, hown, hts⟩ (c_X5_clear l D cI cL cM _ b (rs_n (rs_lo (rs_ra (rs_od (rs_th u 0) (upd (r_od u) (r_n u) x)) (upd (r_ra u) (r_n u) y)) (upd (r_lo u) (r_n u) t3)) ((r_n u) + 1))  ) (cwV 0 hts gX5_addModel_X5_clear rfl rfl rfl (by decide +kernel) ⟨(Nat.le_of_ble_eq_true rfl), (Nat.le_of_ble_eq_true rfl)⟩) hE hP hD hS hA 0 rfl rfl rfl hl.1 rfl (Nat.le_of_ble_eq_true rfl) dX5_addModel_96 ⟨(Nat.le_of_ble_eq_true rfl), (Nat.le_of_ble_eq_true rfl)⟩) hS (fun H locs hP hD hS => ?_)
          have hP : va_P D vwCl (rfW cI b (r_clr (rs_n (rs_lo (rs_ra (rs_od (rs_th u 0) (upd (r_od u) (r_n u) x)) (upd (r_ra u) (r_n u) y)) (upd (r_lo u) (r_n u) t3)) ((r_n u) + 1)))) H := hP
          have hD : va_D A (rfW cI b (r_clr (rs_n (rs_lo (rs_ra (rs_od (rs_th u 0) (upd (r_od u) (r_n u) x)) (upd (r_ra u) (r_n u) y)) (upd (r_lo u) (r_n u) t3)) ((r_n u) + 1)))) := hD
          refine lv_aload_n hx hb dX5_addModel_99 rfl (lv_at hl 0 rfl) ?_
          refine va_get (D := D) (ci := 5) (v := .int (nI (r_n (r_clr (rs_n (rs_lo (rs_ra (rs_od (rs_th u 0) (upd (r_od u) (r_n u) x)) (upd (r_ra u) (r_n u) y)) (upd (r_lo u) (r_n u) t3)) ((r_n u) + 1)))))) (C := RX5) (T := TX5) (N := 22) hx hb hts (fun _ h => List.mem_cons_of_mem _ (List.mem_append_right _ h)) hown hK hP 0 rfl rfl 1 (by decide) (hts _ (List.mem_of_getElem? (i := 2) rfl)) (fun _ h9 => h9) rfl dX5_addModel_100 ?_
          refine lv_iconst (v := 1) hx hb dX5_addModel_103 (by decide) ?_
          refine lv_isub hx hb dX5_addModel_104 ?_
          have hw9 : (rfW cI b (r_clr (rs_n (rs_lo (rs_ra (rs_od (rs_th u 0) (upd (r_od u) (r_n u) x)) (upd (r_ra u) (r_n u) y)) (upd (r_lo u) (r_n u) t3)) ((r_n u) + 1)))) = (rfW cI b (if isI x 0 3 = 0 then (rs_th (rs_th u 0) 1) else if isI y 2 7 = 0 then (rs_th (rs_th u 0) 1) else if isI t3 4 9 = 0 then (rs_th (rs_th u 0) 1) else if r_n u = 6 then (rs_th (rs_th u 0) 2) else r_add x y t3 u)) := by first | (rw [if_pos ca]; try rfl) | (rw [if_neg ca, if_pos cb]; try rfl) | (rw [if_neg ca, if_neg cb, if_pos cd]; try rfl) | (rw [if_neg ca, if_neg cb, if_neg cd, if_pos cf]; try rfl) | (rw [if_neg ca, if_neg cb, if_neg cd, if_neg cf]; try rfl)
          rw [hw9] at hP hD
          exact W.iret (v := (nI (r_n (r_clr (rs_n (rs_lo (rs_ra (rs_od (rs_th u 0) (upd (r_od u) (r_n u) x)) (upd (r_ra u) (r_n u) y)) (upd (r_lo u) (r_n u) t3)) ((r_n u) + 1))))) - 1) hx hb hr (fun t ht hW => ⟨⟨((nI (r_n (r_clr (rs_n (rs_lo (rs_ra (rs_od (rs_th u 0) (upd (r_od u) (r_n u) x)) (upd (r_ra u) (r_n u) y)) (upd (r_lo u) (r_n u) t3)) ((r_n u) + 1))))) - 1), (), rfl, by (first | (rw [if_pos ca]) | (rw [if_neg ca, if_pos cb]) | (rw [if_neg ca, if_neg cb, if_pos cd]) | (rw [if_neg ca, if_neg cb, if_neg cd, if_pos cf]) | (rw [if_neg ca, if_neg cb, if_neg cd, if_neg cf, r_clr_n]; exact pk_m1s _)), by rw [ht]; exact hP, hD⟩, hS.F ht⟩) hS.2.2 dX5_addModel_105
        · replace cn : (nI (r_n u)) = (6 : Int32) := cn
          have cf : r_n u = 6 := (nI_eq (b := 6) (by omega) (by omega)).mp cn
          refine lv_aload_n hx hb dX5_addModel_49 rfl (lv_at hl 0 rfl) ?_
          refine lv_iconst (v := 2) hx hb dX5_addModel_50 (by decide) ?_
          refine kIa (rVa (As := [.int 2]) (rest := []) ⟨hx, hb, hml, hown, hts⟩ (c_X5_no l D cI cL cM _ b (rs_th u 0) 2 ) (cwV 1 hts gX5_addModel_X5_no rfl rfl rfl (by decide +kernel) ⟨(Nat.le_of_ble_eq_true rfl), (Nat.le_of_ble_eq_true rfl)⟩) hE hP hD hS hA 0 rfl rfl rfl hl.1 rfl (Nat.le_of_ble_eq_true rfl) dX5_addModel_51 ⟨(Nat.le_of_ble_eq_true rfl), (Nat.le_of_ble_eq_true rfl)⟩) hS (fun H locs hP hD hS => ?_)
          have hP : va_P D vwCl (rfW cI b (rs_th (rs_th u 0) 2)) H := hP
          have hD : va_D A (rfW cI b (rs_th (rs_th u 0) 2)) := hD
          have hw9 : (rfW cI b (rs_th (rs_th u 0) 2)) = (rfW cI b (if isI x 0 3 = 0 then (rs_th (rs_th u 0) 1) else if isI y 2 7 = 0 then (rs_th (rs_th u 0) 1) else if isI t3 4 9 = 0 then (rs_th (rs_th u 0) 1) else if r_n u = 6 then (rs_th (rs_th u 0) 2) else r_add x y t3 u)) := by first | (rw [if_pos ca]; try rfl) | (rw [if_neg ca, if_pos cb]; try rfl) | (rw [if_neg ca, if_neg cb, if_pos cd]; try rfl) | (rw [if_neg ca, if_neg cb, if_neg cd, if_pos cf]; try rfl) | (rw [if_neg ca, if_neg cb, if_neg cd, if_neg cf]; try rfl)
          rw [hw9] at hP hD
          exact W.iret (v := (0)) hx hb hr (fun t ht hW => ⟨⟨(0), (), rfl, by (first | (rw [if_pos ca]) | (rw [if_neg ca, if_pos cb]) | (rw [if_neg ca, if_neg cb, if_pos cd]) | (rw [if_neg ca, if_neg cb, if_neg cd, if_pos cf]) | (rw [if_neg ca, if_neg cb, if_neg cd, if_neg cf, r_clr_n]; exact pk_m1s _)), by rw [ht]; exact hP, hD⟩, hS.F ht⟩) hS.2.2 dX5_addModel_54
      · replace cd : (isI t3 4 9) = (0 : Int32) := cd
        refine lv_aload_n hx hb dX5_addModel_34 rfl (lv_at hl 0 rfl) ?_
        refine lv_iconst (v := 1) hx hb dX5_addModel_35 (by decide) ?_
        refine kIa (rVa (As := [.int 1]) (rest := []) ⟨hx, hb, hml, hown, hts⟩ (c_X5_no l D cI cL cM _ b (rs_th u 0) 1 ) (cwV 1 hts gX5_addModel_X5_no rfl rfl rfl (by decide +kernel) ⟨(Nat.le_of_ble_eq_true rfl), (Nat.le_of_ble_eq_true rfl)⟩) hE hP hD hS hA 0 rfl rfl rfl hl.1 rfl (Nat.le_of_ble_eq_true rfl) dX5_addModel_36 ⟨(Nat.le_of_ble_eq_true rfl), (Nat.le_of_ble_eq_true rfl)⟩) hS (fun H locs hP hD hS => ?_)
        have hP : va_P D vwCl (rfW cI b (rs_th (rs_th u 0) 1)) H := hP
        have hD : va_D A (rfW cI b (rs_th (rs_th u 0) 1)) := hD
        have hw9 : (rfW cI b (rs_th (rs_th u 0) 1)) = (rfW cI b (if isI x 0 3 = 0 then (rs_th (rs_th u 0) 1) else if isI y 2 7 = 0 then (rs_th (rs_th u 0) 1) else if isI t3 4 9 = 0 then (rs_th (rs_th u 0) 1) else if r_n u = 6 then (rs_th (rs_th u 0) 2) else r_add x y t3 u)) := by first | (rw [if_pos ca]; try rfl) | (rw [if_neg ca, if_pos cb]; try rfl) | (rw [if_neg ca, if_neg cb, if_pos cd]; try rfl) | (rw [if_neg ca, if_neg cb, if_neg cd, if_pos cf]; try rfl) | (rw [if_neg ca, if_neg cb, if_neg cd, if_neg cf]; try rfl)
        rw [hw9] at hP hD
        exact W.iret (v := (0)) hx hb hr (fun t ht hW => ⟨⟨(0), (), rfl, by (first | (rw [if_pos ca]) | (rw [if_neg ca, if_pos cb]) | (rw [if_neg ca, if_neg cb, if_pos cd]) | (rw [if_neg ca, if_neg cb, if_neg cd, if_pos cf]) | (rw [if_neg ca, if_neg cb, if_neg cd, if_neg cf, r_clr_n]; exact pk_m1s _)), by rw [ht]; exact hP, hD⟩, hS.F ht⟩) hS.2.2 dX5_addModel_39

set_option maxHeartbeats 4000000 in
set_option maxRecDepth 100000 in
theorem c_X5_removeModel (l : Launch) (D : va_G) (cI cL cM : ClassId) (A : Nat → Prop) (b : Nat → Nat) (u : RS) (hn6 : r_n u ≤ 6) : mI l yX5_removeModel wsX5_removeModel ({ frames := 1, cells := 0, slots := 0, locals := 21 }) D (tB cI cL cM) A [.ref (b 0)] (rfW cI b u) (if r_n u = 0 then 0 else nI (r_n u - 1)) (rfW cI b (if r_n u = 0 then (rs_th (rs_th u 0) 1) else r_clr (rs_n (rs_th u 0) (r_n u - 1)))) := by
  refine Met.ofW (cc := cX5_removeModel) (maxL := 1) (ret := (some .int)) (by decide) rfl ?_
  intro p e s m args below meth c s₁ B hml hv
  obtain ⟨rfl, hP, hE, hD, hA⟩ := hv
  have hK := hE.1
  have hx := B.exec
  have hb := B.bytes
  have hr := B.returns
  have hts := atoms_spec (ws := wsX5_removeModel) B.pre
  have hown : s.vm.findClass RX5 = some m.cls := findClass_of_methodNamed B.named
  have hlocks := B.notSynchronized
  have hS : va_S A s.heap s.heap [] := va_S.rf
  have hl := lv_entry ([.ref (b 0)]) (n := 1) (Nat.le_of_ble_eq_true rfl)
  rw [lg_entry_eq]
  generalize (lg_sl ([.ref (b 0)]) ++ List.replicate (1 - (lg_sl ([.ref (b 0)])).length) Slot.unset).toArray = ls at hl ⊢
  have hl : lv_has ls 1 [(0, .ref (b 0))] := hl
  refine lv_aload_n hx hb dX5_removeModel_0 rfl (lv_at hl 0 rfl) ?_
  refine lv_iconst (v := 0) hx hb dX5_removeModel_1 (by decide) ?_
  refine va_put (D := D) (ci := 5) (v := .int 0) (ty := .int) (C := RX5) (T := TX5) (N := 22) hx hb hts (fun _ h => List.mem_cons_of_mem _ (List.mem_append_right _ h)) tyX5 tyX5_ok nmX5 hown hK hP hD hS 0 rfl rfl 0 (by decide) (hts _ (List.mem_of_getElem? (i := 1) rfl)) (fun _ h9 => h9) rfl (by decide +kernel) rfl rfl (Nat.le_of_ble_eq_true rfl) dX5_removeModel_2 (fun H locs hP hD hS => ?_)
  rw [rfW_th] at hP hD
  have hP : va_P D vwCl (rfW cI b (rs_th u 0)) H := hP
  have hD : va_D A (rfW cI b (rs_th u 0)) := hD
  refine lv_aload_n hx hb dX5_removeModel_5 rfl (lv_at hl 0 rfl) ?_
  refine va_get (D := D) (ci := 5) (v := .int (nI (r_n u))) (C := RX5) (T := TX5) (N := 22) hx hb hts (fun _ h => List.mem_cons_of_mem _ (List.mem_append_right _ h)) hown hK hP 0 rfl rfl 1 (by decide) (hts _ (List.mem_of_getElem? (i := 2) rfl)) (fun _ h9 => h9) rfl dX5_removeModel_6 ?_
  refine lv_if_ne (tgt := 18) hx hb dX5_removeModel_9 (by decide) (fun cn => ?_) (fun cn => ?_)
  · replace cn : ¬ (nI (r_n u)) = (0 : Int32) := cn
    have cf : ¬ r_n u = 0 := fun h9 => cn (by rw [h9]; rfl)
    refine lv_aload_n hx hb dX5_removeModel_18 rfl (lv_at hl 0 rfl) ?_
    refine lv_dup hx hb dX5_removeModel_19 rfl ?_
    refine va_get (D := D) (ci := 5) (v := .int (nI (r_n u))) (C := RX5) (T := TX5) (N := 22) hx hb hts (fun _ h => List.mem_cons_of_mem _ (List.mem_append_right _ h)) hown hK hP 0 rfl rfl 1 (by decide) (hts _ (List.mem_of_getElem? (i := 2) rfl)) (fun _ h9 => h9) rfl dX5_removeModel_20 ?_
    refine lv_iconst (v := 1) hx hb dX5_removeModel_23 (by decide) ?_
    refine lv_isub hx hb dX5_removeModel_24 ?_
    refine topI (y := nI (r_n u - 1)) (pk_sub (b := 1) (by omega)) ?_
    refine va_put (D := D) (ci := 5) (v := .int (nI (r_n u - 1))) (ty := .int) (C := RX5) (T := TX5) (N := 22) hx hb hts (fun _ h => List.mem_cons_of_mem _ (List.mem_append_right _ h)) tyX5 tyX5_ok nmX5 hown hK hP hD hS 0 rfl rfl 1 (by decide) (hts _ (List.mem_of_getElem? (i := 2) rfl)) (fun _ h9 => h9) rfl (by decide +kernel) rfl rfl (Nat.le_of_ble_eq_true rfl) dX5_removeModel_25 (fun H locs hP hD hS => ?_)
    rw [rfW_n] at hP hD
    have hP : va_P D vwCl (rfW cI b (rs_n (rs_th u 0) (r_n u - 1))) H := hP
    have hD : va_D A (rfW cI b (rs_n (rs_th u 0) (r_n u - 1))) := hD
    refine lv_aload_n hx hb dX5_removeModel_28 rfl (lv_at hl 0 rfl) ?_
    refine kVa (rVa (As := []) (rest := []) ⟨hx, hb, hml, hown, hts⟩ (c_X5_clear l D cI cL cM _ b (rs_n (rs_th u 0) (r_n u - 1))  ) (cwV 0 hts gX5_removeModel_X5_clear rfl rfl rfl (by decide +kernel) ⟨(Nat.le_of_ble_eq_true rfl), (Nat.le_of_ble_eq_true rfl)⟩) hE hP hD hS hA 0 rfl rfl rfl hl.1 rfl (Nat.le_of_ble_eq_true rfl) dX5_removeModel_29 ⟨(Nat.le_of_ble_eq_true rfl), (Nat.le_of_ble_eq_true rfl)⟩) hS (fun H locs hP hD hS => ?_)
    have hP : va_P D vwCl (rfW cI b (r_clr (rs_n (rs_th u 0) (r_n u - 1)))) H := hP
    have hD : va_D A (rfW cI b (r_clr (rs_n (rs_th u 0) (r_n u - 1)))) := hD
    refine lv_aload_n hx hb dX5_removeModel_32 rfl (lv_at hl 0 rfl) ?_
    refine va_get (D := D) (ci := 5) (v := .int (nI (r_n (r_clr (rs_n (rs_th u 0) (r_n u - 1)))))) (C := RX5) (T := TX5) (N := 22) hx hb hts (fun _ h => List.mem_cons_of_mem _ (List.mem_append_right _ h)) hown hK hP 0 rfl rfl 1 (by decide) (hts _ (List.mem_of_getElem? (i := 2) rfl)) (fun _ h9 => h9) rfl dX5_removeModel_33 ?_
    have hw9 : (rfW cI b (r_clr (rs_n (rs_th u 0) (r_n u - 1)))) = (rfW cI b (if r_n u = 0 then (rs_th (rs_th u 0) 1) else r_clr (rs_n (rs_th u 0) (r_n u - 1)))) := by first | (rw [if_pos cf]; try rfl) | (rw [if_neg cf]; try rfl)
    rw [hw9] at hP hD
    exact W.iret (v := nI (r_n (r_clr (rs_n (rs_th u 0) (r_n u - 1))))) hx hb hr (fun t ht hW => ⟨⟨(nI (r_n (r_clr (rs_n (rs_th u 0) (r_n u - 1))))), (), rfl, by (first | (rw [if_pos cf]) | (rw [if_neg cf, r_clr_n]; try rfl)), by rw [ht]; exact hP, hD⟩, hS.F ht⟩) hS.2.2 dX5_removeModel_36
  · replace cn : (nI (r_n u)) = (0 : Int32) := cn
    have cf : r_n u = 0 := (nI_eq (b := 0) (by omega) (by omega)).mp cn
    refine lv_aload_n hx hb dX5_removeModel_12 rfl (lv_at hl 0 rfl) ?_
    refine lv_iconst (v := 1) hx hb dX5_removeModel_13 (by decide) ?_
    refine kIa (rVa (As := [.int 1]) (rest := []) ⟨hx, hb, hml, hown, hts⟩ (c_X5_no l D cI cL cM _ b (rs_th u 0) 1 ) (cwV 1 hts gX5_removeModel_X5_no rfl rfl rfl (by decide +kernel) ⟨(Nat.le_of_ble_eq_true rfl), (Nat.le_of_ble_eq_true rfl)⟩) hE hP hD hS hA 0 rfl rfl rfl hl.1 rfl (Nat.le_of_ble_eq_true rfl) dX5_removeModel_14 ⟨(Nat.le_of_ble_eq_true rfl), (Nat.le_of_ble_eq_true rfl)⟩) hS (fun H locs hP hD hS => ?_)
    have hP : va_P D vwCl (rfW cI b (rs_th (rs_th u 0) 1)) H := hP
    have hD : va_D A (rfW cI b (rs_th (rs_th u 0) 1)) := hD
    have hw9 : (rfW cI b (rs_th (rs_th u 0) 1)) = (rfW cI b (if r_n u = 0 then (rs_th (rs_th u 0) 1) else r_clr (rs_n (rs_th u 0) (r_n u - 1)))) := by first | (rw [if_pos cf]; try rfl) | (rw [if_neg cf]; try rfl)
    rw [hw9] at hP hD
    exact W.iret (v := (0)) hx hb hr (fun t ht hW => ⟨⟨(0), (), rfl, by (first | (rw [if_pos cf]) | (rw [if_neg cf, r_clr_n]; try rfl)), by rw [ht]; exact hP, hD⟩, hS.F ht⟩) hS.2.2 dX5_removeModel_17

set_option maxHeartbeats 4000000 in
set_option maxRecDepth 100000 in
theorem c_X5_setRate (l : Launch) (D : va_G) (cI cL cM : ClassId) (A : Nat → Prop) (b : Nat → Nat) (u : RS) (q y : Int32) (hs : RSf u) : mI l yX5_setRate wsX5_setRate ({ frames := 2, cells := 0, slots := 0, locals := 43 }) D (tB cI cL cM) A [.ref (b 0), .int q, .int y] (rfW cI b u) (if isI q 0 (nI (r_n u) - 1) = 0 then 0 else if isI y 2 7 = 0 then 0 else r_ra u q.toNatClampNeg) (rfW cI b (if isI q 0 (nI (r_n u) - 1) = 0 then (rs_th (rs_th u 0) 1) else if isI y 2 7 = 0 then (rs_th (rs_th u 0) 2) else r_clr (rs_ra (rs_th u 0) (upd (r_ra u) q.toNatClampNeg y)))) := by
  refine Met.ofW (cc := cX5_setRate) (maxL := 4) (ret := (some .int)) (by decide) rfl ?_
  intro p e s m args below meth c s₁ B hml hv
  obtain ⟨rfl, hP, hE, hD, hA⟩ := hv
  have hK := hE.1
  have hx := B.exec
  have hb := B.bytes
  have hr := B.returns
  have hts := atoms_spec (ws := wsX5_setRate) B.pre
  have hown : s.vm.findClass RX5 = some m.cls := findClass_of_methodNamed B.named
  have hlocks := B.notSynchronized
  have hS : va_S A s.heap s.heap [] := va_S.rf
  have hl := lv_entry ([.ref (b 0), .int q, .int y]) (n := 4) (Nat.le_of_ble_eq_true rfl)
  rw [lg_entry_eq]
  generalize (lg_sl ([.ref (b 0), .int q, .int y]) ++ List.replicate (4 - (lg_sl ([.ref (b 0), .int q, .int y])).length) Slot.unset).toArray = ls at hl ⊢
  have hl : lv_has ls 4 [(0, .ref (b 0)), (1, .int q), (2, .int y)] := hl
  refine lv_aload_n hx hb dX5_setRate_0 rfl (lv_at hl 0 rfl) ?_
  refine lv_iconst (v := 0) hx hb dX5_setRate_1 (by decide) ?_
  refine va_put (D := D) (ci := 5) (v := .int 0) (ty := .int) (C := RX5) (T := TX5) (N := 22) hx hb hts (fun _ h => List.mem_cons_of_mem _ (List.mem_append_right _ h)) tyX5 tyX5_ok nmX5 hown hK hP hD hS 0 rfl rfl 0 (by decide) (hts _ (List.mem_of_getElem? (i := 1) rfl)) (fun _ h9 => h9) rfl (by decide +kernel) rfl rfl (Nat.le_of_ble_eq_true rfl) dX5_setRate_2 (fun H locs hP hD hS => ?_)
  rw [rfW_th] at hP hD
  have hP : va_P D vwCl (rfW cI b (rs_th u 0)) H := hP
  have hD : va_D A (rfW cI b (rs_th u 0)) := hD
  refine lv_aload_n hx hb dX5_setRate_5 rfl (lv_at hl 0 rfl) ?_
  refine lv_iload_n hx hb dX5_setRate_6 rfl (lv_at hl 1 rfl) ?_
  refine kIa (rVa (As := [.int q]) (rest := []) ⟨hx, hb, hml, hown, hts⟩ (c_X5_isModel l D cI cL cM _ b (rs_th u 0) q ) (cwV 1 hts gX5_setRate_X5_isModel rfl rfl rfl (by decide +kernel) ⟨(Nat.le_of_ble_eq_true rfl), (Nat.le_of_ble_eq_true rfl)⟩) hE hP hD hS hA 0 rfl rfl rfl hl.1 rfl (Nat.le_of_ble_eq_true rfl) dX5_setRate_7 ⟨(Nat.le_of_ble_eq_true rfl), (Nat.le_of_ble_eq_true rfl)⟩) hS (fun H locs hP hD hS => ?_)
  have hP : va_P D vwCl (rfW cI b (rs_th u 0)) H := hP
  have hD : va_D A (rfW cI b (rs_th u 0)) := hD
  refine lv_if_ne (tgt := 19) hx hb dX5_setRate_10 (by decide) (fun cm => ?_) (fun cm => ?_)
  · replace cm : ¬ (isI q 0 (nI (r_n u) - 1)) = (0 : Int32) := cm
    obtain ⟨hn6, hnd, hnd0, hsj⟩ := id hs
    obtain ⟨j, hjn, hq⟩ := isI0 (by omega) cm
    have hj6 : j < 6 := by omega
    have hcl := clN hq hj6 (Nat.le_of_ble_eq_true rfl)
    refine lv_iload_n hx hb dX5_setRate_19 rfl (lv_at hl 2 rfl) ?_
    refine lv_iconst (v := 2) hx hb dX5_setRate_20 (by decide) ?_
    refine lv_bipush (v := 7) hx hb dX5_setRate_21 (by decide) ?_
    refine kI (rS (As := [.int y, .int 2, .int 7]) (rest := []) ⟨hx, hb, hml, hown, hts⟩ (c_X5_isIn l D cI cL cM _ y 2 7 ) (va_cwS 3 hts gX5_setRate_X5_isIn rfl rfl rfl (by decide +kernel) ⟨(Nat.le_of_ble_eq_true rfl), (Nat.le_of_ble_eq_true rfl)⟩) hE hP hD [] rfl rfl rfl hl.1 rfl (Nat.le_of_ble_eq_true rfl) dX5_setRate_23 ⟨(Nat.le_of_ble_eq_true rfl), (Nat.le_of_ble_eq_true rfl)⟩) hP hD hS hA (is := []) rfl rfl (fun H locs hP hD hS => ?_)
    rw [putW_nil] at hP hD
    have hP : va_P D vwCl (rfW cI b (rs_th u 0)) H := hP
    have hD : va_D A (rfW cI b (rs_th u 0)) := hD
    refine lv_if_ne (tgt := 35) hx hb dX5_setRate_26 (by decide) (fun ci => ?_) (fun ci => ?_)
    · replace ci : ¬ (isI y 2 7) = (0 : Int32) := ci
      refine lv_aload_n hx hb dX5_setRate_35 rfl (lv_at hl 0 rfl) ?_
      refine va_get (D := D) (ci := 5) (v := .ref (b 2)) (C := RX5) (T := TX5) (N := 22) hx hb hts (fun _ h => List.mem_cons_of_mem _ (List.mem_append_right _ h)) hown hK hP 0 rfl rfl 3 (by decide) (hts _ (List.mem_of_getElem? (i := 2) rfl)) (fun _ h9 => h9) rfl dX5_setRate_36 ?_
      refine lv_iload_n hx hb dX5_setRate_39 rfl (lv_at hl 1 rfl) ?_
      refine topI (y := nI j) (hq) ?_
      refine ildN hx hb hK hP 2 0 rfl rfl j (hj6) ((Nat.le_of_ble_eq_true rfl)) dX5_setRate_40 ?_
      refine lv_istore_n (lv' := [(3, .int ((r_ra u) j)), (0, .ref (b 0)), (1, .int q), (2, .int y)]) hx hb dX5_setRate_41 rfl hl (by decide) rfl (fun ls hl => ?_)
      refine lv_aload_n hx hb dX5_setRate_42 rfl (lv_at hl 1 rfl) ?_
      refine va_get (D := D) (ci := 5) (v := .ref (b 2)) (C := RX5) (T := TX5) (N := 22) hx hb hts (fun _ h => List.mem_cons_of_mem _ (List.mem_append_right _ h)) hown hK hP 0 rfl rfl 3 (by decide) (hts _ (List.mem_of_getElem? (i := 2) rfl)) (fun _ h9 => h9) rfl dX5_setRate_43 ?_
      refine lv_iload_n hx hb dX5_setRate_46 rfl (lv_at hl 2 rfl) ?_
      refine topI (y := nI j) (hq) ?_
      refine lv_iload_n hx hb dX5_setRate_47 rfl (lv_at hl 3 rfl) ?_
      refine istN hx hb hK hP hD hS 2 0 rfl rfl j (hj6) ((Nat.le_of_ble_eq_true rfl)) dX5_setRate_48 (fun H locs hP hD hS => ?_)
      rw [rfW_ra] at hP hD
      have hP : va_P D vwCl (rfW cI b (rs_ra (rs_th u 0) (upd (r_ra u) j y))) H := hP
      have hD : va_D A (rfW cI b (rs_ra (rs_th u 0) (upd (r_ra u) j y))) := hD
      refine lv_aload_n hx hb dX5_setRate_49 rfl (lv_at hl 1 rfl) ?_
      refine kVa (rVa (As := []) (rest := []) ⟨hx, hb, hml, hown, hts⟩ (c_X5_clear l D cI cL cM _ b (rs_ra (rs_th u 0) (upd (r_ra u) j y))  ) (cwV 0 hts gX5_setRate_X5_clear rfl rfl rfl (by decide +kernel) ⟨(Nat.le_of_ble_eq_true rfl), (Nat.le_of_ble_eq_true rfl)⟩) hE hP hD hS hA 0 rfl rfl rfl hl.1 rfl (Nat.le_of_ble_eq_true rfl) dX5_setRate_50 ⟨(Nat.le_of_ble_eq_true rfl), (Nat.le_of_ble_eq_true rfl)⟩) hS (fun H locs hP hD hS => ?_)
      have hP : va_P D vwCl (rfW cI b (r_clr (rs_ra (rs_th u 0) (upd (r_ra u) j y)))) H := hP
      have hD : va_D A (rfW cI b (r_clr (rs_ra (rs_th u 0) (upd (r_ra u) j y)))) := hD
      refine lv_iload_n hx hb dX5_setRate_53 rfl (lv_at hl 0 rfl) ?_
      have hw9 : (rfW cI b (r_clr (rs_ra (rs_th u 0) (upd (r_ra u) j y)))) = (rfW cI b (if isI q 0 (nI (r_n u) - 1) = 0 then (rs_th (rs_th u 0) 1) else if isI y 2 7 = 0 then (rs_th (rs_th u 0) 2) else r_clr (rs_ra (rs_th u 0) (upd (r_ra u) q.toNatClampNeg y)))) := by first | (rw [if_pos cm]; try rfl) | (rw [if_neg cm, if_pos ci]; try rfl) | (rw [if_neg cm, if_neg ci, hcl]; try rfl)
      rw [hw9] at hP hD
      exact W.iret (v := (r_ra u) j) hx hb hr (fun t ht hW => ⟨⟨((r_ra u) j), (), rfl, by (first | (rw [if_pos cm]) | (rw [if_neg cm, if_pos ci]) | (rw [if_neg cm, if_neg ci, hcl]; try rfl)), by rw [ht]; exact hP, hD⟩, hS.F ht⟩) hS.2.2 dX5_setRate_54
    · replace ci : (isI y 2 7) = (0 : Int32) := ci
      refine lv_aload_n hx hb dX5_setRate_29 rfl (lv_at hl 0 rfl) ?_
      refine lv_iconst (v := 2) hx hb dX5_setRate_30 (by decide) ?_
      refine kIa (rVa (As := [.int 2]) (rest := []) ⟨hx, hb, hml, hown, hts⟩ (c_X5_no l D cI cL cM _ b (rs_th u 0) 2 ) (cwV 1 hts gX5_setRate_X5_no rfl rfl rfl (by decide +kernel) ⟨(Nat.le_of_ble_eq_true rfl), (Nat.le_of_ble_eq_true rfl)⟩) hE hP hD hS hA 0 rfl rfl rfl hl.1 rfl (Nat.le_of_ble_eq_true rfl) dX5_setRate_31 ⟨(Nat.le_of_ble_eq_true rfl), (Nat.le_of_ble_eq_true rfl)⟩) hS (fun H locs hP hD hS => ?_)
      have hP : va_P D vwCl (rfW cI b (rs_th (rs_th u 0) 2)) H := hP
      have hD : va_D A (rfW cI b (rs_th (rs_th u 0) 2)) := hD
      have hw9 : (rfW cI b (rs_th (rs_th u 0) 2)) = (rfW cI b (if isI q 0 (nI (r_n u) - 1) = 0 then (rs_th (rs_th u 0) 1) else if isI y 2 7 = 0 then (rs_th (rs_th u 0) 2) else r_clr (rs_ra (rs_th u 0) (upd (r_ra u) q.toNatClampNeg y)))) := by first | (rw [if_pos cm]; try rfl) | (rw [if_neg cm, if_pos ci]; try rfl) | (rw [if_neg cm, if_neg ci, hcl]; try rfl)
      rw [hw9] at hP hD
      exact W.iret (v := (0)) hx hb hr (fun t ht hW => ⟨⟨(0), (), rfl, by (first | (rw [if_pos cm]) | (rw [if_neg cm, if_pos ci]) | (rw [if_neg cm, if_neg ci, hcl]; try rfl)), by rw [ht]; exact hP, hD⟩, hS.F ht⟩) hS.2.2 dX5_setRate_34
  · replace cm : (isI q 0 (nI (r_n u) - 1)) = (0 : Int32) := cm
    refine lv_aload_n hx hb dX5_setRate_13 rfl (lv_at hl 0 rfl) ?_
    refine lv_iconst (v := 1) hx hb dX5_setRate_14 (by decide) ?_
    refine kIa (rVa (As := [.int 1]) (rest := []) ⟨hx, hb, hml, hown, hts⟩ (c_X5_no l D cI cL cM _ b (rs_th u 0) 1 ) (cwV 1 hts gX5_setRate_X5_no rfl rfl rfl (by decide +kernel) ⟨(Nat.le_of_ble_eq_true rfl), (Nat.le_of_ble_eq_true rfl)⟩) hE hP hD hS hA 0 rfl rfl rfl hl.1 rfl (Nat.le_of_ble_eq_true rfl) dX5_setRate_15 ⟨(Nat.le_of_ble_eq_true rfl), (Nat.le_of_ble_eq_true rfl)⟩) hS (fun H locs hP hD hS => ?_)
    have hP : va_P D vwCl (rfW cI b (rs_th (rs_th u 0) 1)) H := hP
    have hD : va_D A (rfW cI b (rs_th (rs_th u 0) 1)) := hD
    have hw9 : (rfW cI b (rs_th (rs_th u 0) 1)) = (rfW cI b (if isI q 0 (nI (r_n u) - 1) = 0 then (rs_th (rs_th u 0) 1) else if isI y 2 7 = 0 then (rs_th (rs_th u 0) 2) else r_clr (rs_ra (rs_th u 0) (upd (r_ra u) q.toNatClampNeg y)))) := by first | (rw [if_pos cm]; try rfl) | (rw [if_neg cm, if_pos ci]; try rfl) | (rw [if_neg cm, if_neg ci, hcl]; try rfl)
    rw [hw9] at hP hD
    exact W.iret (v := (0)) hx hb hr (fun t ht hW => ⟨⟨(0), (), rfl, by (first | (rw [if_pos cm]) | (rw [if_neg cm, if_pos ci]) | (rw [if_neg cm, if_neg ci, hcl]; try rfl)), by rw [ht]; exact hP, hD⟩, hS.F ht⟩) hS.2.2 dX5_setRate_18
