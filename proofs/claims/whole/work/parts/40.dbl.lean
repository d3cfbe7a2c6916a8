/-! ===== answers that are doubles ===== -/
def sameD (r q : UInt64) : Prop := r = q ∨ (isNaN64 r = true ∧ isNaN64 q = true)
theorem alike_same {r q v : UInt64} (h1 : alike64 r v = true) (h2 : alike64 q v = true) : sameD r q := by
  unfold alike64 at h1 h2
  simp only [Bool.or_eq_true, decide_eq_true_eq, Bool.and_eq_true] at h1 h2
  rcases h1 with rfl | ⟨h1, h3⟩
  · rcases h2 with rfl | ⟨h2, h4⟩
    · exact Or.inl rfl
    · exact Or.inr ⟨h4, h2⟩
  · rcases h2 with rfl | ⟨h2, h4⟩
    · exact Or.inr ⟨h1, h3⟩
    · exact Or.inr ⟨h1, h2⟩
theorem nan_fld {n t k : Nat} (ht : 0 < t) (h : k * t < n % (t * (k + 1))) : n / t % (k + 1) = k ∧ ¬ n % t = 0 := by
  rw [Nat.mod_mul] at h
  have h1 : n / t % (k + 1) < k + 1 := Nat.mod_lt _ (Nat.succ_pos k)
  have h2 : n % t < t := Nat.mod_lt _ ht
  generalize n / t % (k + 1) = e at h h1 ⊢
  generalize n % t = r at h h2 ⊢
  rw [Nat.mul_comm k t] at h
  have h3 : e = k := by
    rcases Nat.lt_or_ge e k with h9 | h9
    · have h4 : t * (e + 1) ≤ t * k := Nat.mul_le_mul_left t h9
      rw [Nat.mul_add, Nat.mul_one] at h4
      omega
    · omega
  subst h3
  exact ⟨rfl, by omega⟩
theorem nan_dec {r : UInt64} (h : isNaN64 r = true) : FP.Core.decode FP.Core.b64 r.toNat = .nan := by
  have h1 := isNaN64_iff.mp h
  generalize r.toNat = n at h1
  have e : n &&& 0x7fffffffffffffff = n % (4503599627370496 * (2047 + 1)) := Nat.and_two_pow_sub_one_eq_mod n 63
  rw [e] at h1
  obtain ⟨h2, h3⟩ := nan_fld (n := n) (t := 4503599627370496) (k := 2047) (Nat.le_of_ble_eq_true rfl) h1
  unfold FP.Core.decode
  rw [if_pos (show FP.Core.fieldE FP.Core.b64 n = FP.Core.b64.exps - 1 from h2), if_neg (show ¬ FP.Core.fieldT FP.Core.b64 n = 0 from h3)]
theorem ddiv_nan {x r q : UInt64} (h1 : isNaN64 r = true) (h2 : isNaN64 q = true) : FP.ddiv x r = FP.ddiv x q := by
  show FP.Core.ddiv x r = FP.Core.ddiv x q
  unfold FP.Core.ddiv FP.Core.div
  rw [nan_dec h1, nan_dec h2]
theorem dcmp_nan {r : UInt64} (h1 : isNaN64 r = true) : FP.dcmp r r = none := by
  show FP.Core.dcmp r r = none
  unfold FP.Core.dcmp FP.Core.cmp
  rw [nan_dec h1]
  rfl
theorem dcmp_nn {r q : UInt64} (h1 : isNaN64 r = true) (h2 : isNaN64 q = true) : FP.dcmp r q = none := by
  show FP.Core.dcmp r q = none
  unfold FP.Core.dcmp FP.Core.cmp
  rw [nan_dec h1, nan_dec h2]
  rfl
def mePost (bt : Int32) (er : Int64) (r : UInt64) : Prop := (bt = 0 ∧ r = FP.dconst0) ∨ (¬ bt = 0 ∧ ∃ r1 : UInt64, alike64 r1 (FP.dmul 4661225614328463360 (FP.i2d bt)) = true ∧ alike64 r (FP.ddiv (FP.l2d er) r1) = true)
theorem mePost_same {bt : Int32} {er : Int64} {r q : UInt64} (h1 : mePost bt er r) (h2 : mePost bt er q) : sameD r q := by
  rcases h1 with ⟨h1, rfl⟩ | ⟨h1, r1, a1, a2⟩
  · rcases h2 with ⟨_, rfl⟩ | ⟨h2, _⟩
    · exact Or.inl rfl
    · exact absurd h1 h2
  · rcases h2 with ⟨h2, _⟩ | ⟨h2, q1, b1, b2⟩
    · exact absurd h2 h1
    · rcases alike_same a1 b1 with rfl | ⟨n1, n2⟩
      · exact alike_same a2 b2
      · rw [ddiv_nan n1 n2] at a2
        exact alike_same a2 b2
def raPost (n c : Int32) (r : UInt64) : Prop := (n = 0 ∧ r = FP.dconst0) ∨ (¬ n = 0 ∧ alike64 r (FP.ddiv (FP.i2d c) (FP.i2d n)) = true)
theorem raPost_same {n c : Int32} {r q : UInt64} (h1 : raPost n c r) (h2 : raPost n c q) : sameD r q := by
  rcases h1 with ⟨h1, rfl⟩ | ⟨h1, a2⟩
  · rcases h2 with ⟨_, rfl⟩ | ⟨h2, _⟩
    · exact Or.inl rfl
    · exact absurd h1 h2
  · rcases h2 with ⟨h2, _⟩ | ⟨h2, b2⟩
    · exact absurd h2 h1
    · exact alike_same a2 b2
def mD (l : Launch) (y : MethodName) (wy : List Cond) (rm : Room) (D : va_G) (T : List (ClassId × FieldType)) (A : Nat → Prop) (av : List Value) (ws : va_W) (post : UInt64 → Prop) (ws' : va_W) : Prop :=
  MetD lw_cs l y wy rm (va_Pc av (ho D T A ws)) (va_Qd (fun r (_ : Unit) => post r) (fun _ t => hq D A ws' t) A) 0 0 A
theorem i_pos0 {x : Int32} (h0 : 0 ≤ x.toInt) (h : ¬ (0 : Int32) < x) : x = 0 := by
  rw [Int32.lt_iff_toInt_lt, tI0] at h
  refine Int32.toInt_inj.mp ?_
  rw [tI0]; omega
theorem i_ne0 {x : Int32} (h : (0 : Int32) < x) : ¬ x = 0 := fun h9 => by rw [h9] at h; exact absurd h (by decide)

set_option maxHeartbeats 4000000 in
set_option maxRecDepth 100000 in
theorem c_X4_meanError (l : Launch) (D : va_G) (cI cL cM : ClassId) (A : Nat → Prop) (a : Nat → Nat) (x : Mx) (h0 : 0 ≤ (k_bt (x_pr x)).toInt) : mD l yX4_meanError wsX4_meanError ({ frames := 0, cells := 0, slots := 0, locals := 0 }) D (tB cI cL cM) A [.ref (a 0)] (mxW cI cL cM a x) (mePost (k_bt (x_pr x)) (k_er (x_pr x))) (mxW cI cL cM a x) := by
  refine MetD.ofW (cc := cX4_meanError) (maxL := 1) (ret := (some .double)) (by decide) rfl ?_
  intro p e s m args below meth c s₁ B hml hv hd0
  obtain ⟨rfl, hP, hE, hD, hA⟩ := hv
  have hK := hE.1
  have hx := B.exec
  have hb := B.bytes
  have hr := B.returns
  have hts := dr_words (atoms_spec (ws := wsX4_meanError) B.pre) s.drawn
  have hown : s.vm.findClass RX4 = some m.cls := findClass_of_methodNamed B.named
  have hlocks := B.notSynchronized
  have hS : va_S A s.heap s.heap [] := va_S.rf
  have hl := lv_entry ([.ref (a 0)]) (n := 1) (Nat.le_of_ble_eq_true rfl)
  rw [lg_entry_eq]
  generalize (lg_sl ([.ref (a 0)]) ++ List.replicate (1 - (lg_sl ([.ref (a 0)])).length) Slot.unset).toArray = ls at hl ⊢
  have hl : lv_has ls 1 [(0, .ref (a 0))] := hl
  refine lv_aload_n hx hb dX4_meanError_0 rfl (lv_at hl 0 rfl) ?_
  refine va_get (D := D) (ci := 4) (v := .ref (a 7)) (C := RX4) (T := TX4) (N := 5) hx hb hts (fun _ h => List.mem_cons_of_mem _ (List.mem_append_left _ (List.mem_append_right _ h))) hown hK hP 0 rfl rfl 3 (by decide) (hts _ (List.mem_of_getElem? (i := 1) rfl)) (fun _ h9 => h9) rfl dX4_meanError_1 ?_
  refine va_get (D := D) (ci := 3) (v := .int (k_bt (x_pr x))) (C := RX3) (T := TX3) (N := 7) hx hb hts (fun _ h => List.mem_cons_of_mem _ (List.mem_append_right _ h)) hown hK hP 7 rfl rfl 5 (by decide) (hts _ (List.mem_of_getElem? (i := 2) rfl)) (fun _ h9 => h9) rfl dX4_meanError_4 ?_
  refine lv_if_gt (tgt := 12) hx hb dX4_meanError_7 (by decide) (fun c1 => ?_) (fun c1 => ?_)
  · replace c1 : (0 : Int32) < (k_bt (x_pr x)) := c1
    have c9 := i_ne0 c1
    refine lv_aload_n hx hb dX4_meanError_12 rfl (lv_at hl 0 rfl) ?_
    refine va_get (D := D) (ci := 4) (v := .ref (a 7)) (C := RX4) (T := TX4) (N := 5) hx hb hts (fun _ h => List.mem_cons_of_mem _ (List.mem_append_left _ (List.mem_append_right _ h))) hown hK hP 0 rfl rfl 3 (by decide) (hts _ (List.mem_of_getElem? (i := 1) rfl)) (fun _ h9 => h9) rfl dX4_meanError_13 ?_
    refine va_get (D := D) (ci := 3) (v := .long (k_er (x_pr x))) (C := RX3) (T := TX3) (N := 7) hx hb hts (fun _ h => List.mem_cons_of_mem _ (List.mem_append_right _ h)) hown hK hP 7 rfl rfl 6 (by decide) (hts _ (List.mem_of_getElem? (i := 3) rfl)) (fun _ h9 => h9) rfl dX4_meanError_16 ?_
    refine lv_l2d hx hb dX4_meanError_19 ?_
    refine lv_ldc2d hx hb hown (hts _ (List.mem_of_getElem? (i := 4) rfl)) dX4_meanError_20 ?_
    refine lv_aload_n hx hb dX4_meanError_23 rfl (lv_at hl 0 rfl) ?_
    refine va_get (D := D) (ci := 4) (v := .ref (a 7)) (C := RX4) (T := TX4) (N := 5) hx hb hts (fun _ h => List.mem_cons_of_mem _ (List.mem_append_left _ (List.mem_append_right _ h))) hown hK hP 0 rfl rfl 3 (by decide) (hts _ (List.mem_of_getElem? (i := 1) rfl)) (fun _ h9 => h9) rfl dX4_meanError_24 ?_
    refine va_get (D := D) (ci := 3) (v := .int (k_bt (x_pr x))) (C := RX3) (T := TX3) (N := 7) hx hb hts (fun _ h => List.mem_cons_of_mem _ (List.mem_append_right _ h)) hown hK hP 7 rfl rfl 5 (by decide) (hts _ (List.mem_of_getElem? (i := 2) rfl)) (fun _ h9 => h9) rfl dX4_meanError_27 ?_
    refine lv_i2d hx hb dX4_meanError_30 ?_
    refine lv_dmul_any hd0 lw_bits hx hb dX4_meanError_31 (fun rd_1 dr_2 hal_rd_1 hd_dr_2 => ?_)
    refine lv_ddiv_any hd_dr_2 lw_bits hx hb dX4_meanError_32 (fun rd_3 dr_4 hal_rd_3 hd_dr_4 => ?_)
    refine W.endD hd_dr_4 ?_
    exact W.dret (v := rd_3) hx hb hr (fun t ht hW => ⟨⟨rd_3, (), rfl, Or.inr ⟨c9, _, hal_rd_1, hal_rd_3⟩, by rw [ht]; exact hP, hD⟩, hS.F ht⟩) hS.2.2 dX4_meanError_33
  · replace c1 : ¬ (0 : Int32) < (k_bt (x_pr x)) := c1
    have c9 := i_pos0 h0 c1
    refine lv_dconst0 hx hb dX4_meanError_10 ?_
    refine W.endD hd0 ?_
    exact W.dret (v := FP.dconst0) hx hb hr (fun t ht hW => ⟨⟨FP.dconst0, (), rfl, Or.inl ⟨c9, rfl⟩, by rw [ht]; exact hP, hD⟩, hS.F ht⟩) hS.2.2 dX4_meanError_11

set_option maxHeartbeats 4000000 in
set_option maxRecDepth 100000 in
theorem c_X4_ratio (l : Launch) (D : va_G) (cI cL cM : ClassId) (A : Nat → Prop) (a : Nat → Nat) (x : Mx) (h0 : q_c (x_tx x) ≤ 80) : mD l yX4_ratio wsX4_ratio ({ frames := 0, cells := 0, slots := 0, locals := 0 }) D (tB cI cL cM) A [.ref (a 0)] (mxW cI cL cM a x) (raPost (nI (q_c (x_tx x))) (nI (q_c (x_en x)))) (mxW cI cL cM a x) := by
  refine MetD.ofW (cc := cX4_ratio) (maxL := 1) (ret := (some .double)) (by decide) rfl ?_
  intro p e s m args below meth c s₁ B hml hv hd0
  obtain ⟨rfl, hP, hE, hD, hA⟩ := hv
  have hK := hE.1
  have hx := B.exec
  have hb := B.bytes
  have hr := B.returns
  have hts := dr_words (atoms_spec (ws := wsX4_ratio) B.pre) s.drawn
  have hown : s.vm.findClass RX4 = some m.cls := findClass_of_methodNamed B.named
  have hlocks := B.notSynchronized
  have hS : va_S A s.heap s.heap [] := va_S.rf
  have hl := lv_entry ([.ref (a 0)]) (n := 1) (Nat.le_of_ble_eq_true rfl)
  rw [lg_entry_eq]
  generalize (lg_sl ([.ref (a 0)]) ++ List.replicate (1 - (lg_sl ([.ref (a 0)])).length) Slot.unset).toArray = ls at hl ⊢
  have hl : lv_has ls 1 [(0, .ref (a 0))] := hl
  refine lv_aload_n hx hb dX4_ratio_0 rfl (lv_at hl 0 rfl) ?_
  refine va_get (D := D) (ci := 4) (v := .ref (a 1)) (C := RX4) (T := TX4) (N := 5) hx hb hts (fun _ h => List.mem_cons_of_mem _ (List.mem_append_left _ (List.mem_append_right _ h))) hown hK hP 0 rfl rfl 0 (by decide) (hts _ (List.mem_of_getElem? (i := 1) rfl)) (fun _ h9 => h9) rfl dX4_ratio_1 ?_
  refine va_get (D := D) (ci := 0) (v := .int (nI (q_c (x_tx x)))) (C := RX0) (T := TX0) (N := 2) hx hb hts (fun _ h => List.mem_cons_of_mem _ (List.mem_append_right _ h)) hown hK hP 1 rfl rfl 1 (by decide) (hts _ (List.mem_of_getElem? (i := 2) rfl)) (fun _ h9 => h9) rfl dX4_ratio_4 ?_
  refine lv_if_gt (tgt := 12) hx hb dX4_ratio_7 (by decide) (fun c1 => ?_) (fun c1 => ?_)
  · replace c1 : (0 : Int32) < (nI (q_c (x_tx x))) := c1
    have c9 := i_ne0 c1
    refine lv_aload_n hx hb dX4_ratio_12 rfl (lv_at hl 0 rfl) ?_
    refine va_get (D := D) (ci := 4) (v := .ref (a 3)) (C := RX4) (T := TX4) (N := 5) hx hb hts (fun _ h => List.mem_cons_of_mem _ (List.mem_append_left _ (List.mem_append_right _ h))) hown hK hP 0 rfl rfl 1 (by decide) (hts _ (List.mem_of_getElem? (i := 3) rfl)) (fun _ h9 => h9) rfl dX4_ratio_13 ?_
    refine va_get (D := D) (ci := 0) (v := .int (nI (q_c (x_en x)))) (C := RX0) (T := TX0) (N := 2) hx hb hts (fun _ h => List.mem_cons_of_mem _ (List.mem_append_right _ h)) hown hK hP 3 rfl rfl 1 (by decide) (hts _ (List.mem_of_getElem? (i := 2) rfl)) (fun _ h9 => h9) rfl dX4_ratio_16 ?_
    refine lv_i2d hx hb dX4_ratio_19 ?_
    refine lv_aload_n hx hb dX4_ratio_20 rfl (lv_at hl 0 rfl) ?_
    refine va_get (D := D) (ci := 4) (v := .ref (a 1)) (C := RX4) (T := TX4) (N := 5) hx hb hts (fun _ h => List.mem_cons_of_mem _ (List.mem_append_left _ (List.mem_append_right _ h))) hown hK hP 0 rfl rfl 0 (by decide) (hts _ (List.mem_of_getElem? (i := 1) rfl)) (fun _ h9 => h9) rfl dX4_ratio_21 ?_
    refine va_get (D := D) (ci := 0) (v := .int (nI (q_c (x_tx x)))) (C := RX0) (T := TX0) (N := 2) hx hb hts (fun _ h => List.mem_cons_of_mem _ (List.mem_append_right _ h)) hown hK hP 1 rfl rfl 1 (by decide) (hts _ (List.mem_of_getElem? (i := 2) rfl)) (fun _ h9 => h9) rfl dX4_ratio_24 ?_
    refine lv_i2d hx hb dX4_ratio_27 ?_
    refine lv_ddiv_any hd0 lw_bits hx hb dX4_ratio_28 (fun rd_1 dr_2 hal_rd_1 hd_dr_2 => ?_)
    refine W.endD hd_dr_2 ?_
    exact W.dret (v := rd_1) hx hb hr (fun t ht hW => ⟨⟨rd_1, (), rfl, Or.inr ⟨c9, hal_rd_1⟩, by rw [ht]; exact hP, hD⟩, hS.F ht⟩) hS.2.2 dX4_ratio_29
  · replace c1 : ¬ (0 : Int32) < (nI (q_c (x_tx x))) := c1
    have c9 := i_pos0 (by rw [nI_toInt (by omega)]; omega) c1
    refine lv_dconst0 hx hb dX4_ratio_10 ?_
    refine W.endD hd0 ?_
    exact W.dret (v := FP.dconst0) hx hb hr (fun t ht hW => ⟨⟨FP.dconst0, (), rfl, Or.inl ⟨c9, rfl⟩, by rw [ht]; exact hP, hD⟩, hS.F ht⟩) hS.2.2 dX4_ratio_11

set_option maxHeartbeats 4000000 in
set_option maxRecDepth 100000 in
theorem c_X5_meanError (l : Launch) (D : va_G) (cI cL cM : ClassId) (A : Nat → Prop) (b : Nat → Nat) (u : RS) : mD l yX5_meanError wsX5_meanError ({ frames := 0, cells := 0, slots := 0, locals := 0 }) D (tB cI cL cM) A [.ref (b 0)] (rfW cI b u) (mePost (r_ob u) (r_er u)) (rfW cI b (rs_th u 0)) := by
  refine MetD.ofW (cc := cX5_meanError) (maxL := 1) (ret := (some .double)) (by decide) rfl ?_
  intro p e s m args below meth c s₁ B hml hv hd0
  obtain ⟨rfl, hP, hE, hD, hA⟩ := hv
  have hK := hE.1
  have hx := B.exec
  have hb := B.bytes
  have hr := B.returns
  have hts := dr_words (atoms_spec (ws := wsX5_meanError) B.pre) s.drawn
  have hown : s.vm.findClass RX5 = some m.cls := findClass_of_methodNamed B.named
  have hlocks := B.notSynchronized
  have hS : va_S A s.heap s.heap [] := va_S.rf
  have hl := lv_entry ([.ref (b 0)]) (n := 1) (Nat.le_of_ble_eq_true rfl)
  rw [lg_entry_eq]
  generalize (lg_sl ([.ref (b 0)]) ++ List.replicate (1 - (lg_sl ([.ref (b 0)])).length) Slot.unset).toArray = ls at hl ⊢
  have hl : lv_has ls 1 [(0, .ref (b 0))] := hl
  refine lv_aload_n hx hb dX5_meanError_0 rfl (lv_at hl 0 rfl) ?_
  refine lv_iconst (v := 0) hx hb dX5_meanError_1 (by decide) ?_
  refine va_put (D := D) (ci := 5) (v := .int 0) (ty := .int) (C := RX5) (T := TX5) (N := 22) hx hb hts (fun _ h => List.mem_cons_of_mem _ (List.mem_append_right _ h)) tyX5 tyX5_ok nmX5 hown hK hP hD hS 0 rfl rfl 0 (by decide) (hts _ (List.mem_of_getElem? (i := 1) rfl)) (fun _ h9 => h9) rfl (by decide +kernel) rfl rfl (Nat.le_of_ble_eq_true rfl) dX5_meanError_2 (fun H locs hP hD hS => ?_)
  rw [rfW_th] at hP hD
  have hP : va_P D vwCl (rfW cI b (rs_th u 0)) H := hP
  have hD : va_D A (rfW cI b (rs_th u 0)) := hD
  refine lv_aload_n hx hb dX5_meanError_5 rfl (lv_at hl 0 rfl) ?_
  refine va_get (D := D) (ci := 5) (v := .int (r_ob u)) (C := RX5) (T := TX5) (N := 22) hx hb hts (fun _ h => List.mem_cons_of_mem _ (List.mem_append_right _ h)) hown hK hP 0 rfl rfl 14 (by decide) (hts _ (List.mem_of_getElem? (i := 2) rfl)) (fun _ h9 => h9) rfl dX5_meanError_6 ?_
  refine lv_if_ne (tgt := 16) hx hb dX5_meanError_9 (by decide) (fun c9 => ?_) (fun c9 => ?_)
  · replace c9 : ¬ (r_ob u) = (0 : Int32) := c9
    refine lv_aload_n hx hb dX5_meanError_16 rfl (lv_at hl 0 rfl) ?_
    refine va_get (D := D) (ci := 5) (v := .long (r_er u)) (C := RX5) (T := TX5) (N := 22) hx hb hts (fun _ h => List.mem_cons_of_mem _ (List.mem_append_right _ h)) hown hK hP 0 rfl rfl 15 (by decide) (hts _ (List.mem_of_getElem? (i := 3) rfl)) (fun _ h9 => h9) rfl dX5_meanError_17 ?_
    refine lv_l2d hx hb dX5_meanError_20 ?_
    refine lv_ldc2d hx hb hown (hts _ (List.mem_of_getElem? (i := 4) rfl)) dX5_meanError_21 ?_
    refine lv_aload_n hx hb dX5_meanError_24 rfl (lv_at hl 0 rfl) ?_
    refine va_get (D := D) (ci := 5) (v := .int (r_ob u)) (C := RX5) (T := TX5) (N := 22) hx hb hts (fun _ h => List.mem_cons_of_mem _ (List.mem_append_right _ h)) hown hK hP 0 rfl rfl 14 (by decide) (hts _ (List.mem_of_getElem? (i := 2) rfl)) (fun _ h9 => h9) rfl dX5_meanError_25 ?_
    refine lv_i2d hx hb dX5_meanError_28 ?_
    refine lv_dmul_any hd0 lw_bits hx hb dX5_meanError_29 (fun rd_1 dr_2 hal_rd_1 hd_dr_2 => ?_)
    refine lv_ddiv_any hd_dr_2 lw_bits hx hb dX5_meanError_30 (fun rd_3 dr_4 hal_rd_3 hd_dr_4 => ?_)
    refine W.endD hd_dr_4 ?_
    exact W.dret (v := rd_3) hx hb hr (fun t ht hW => ⟨⟨rd_3, (), rfl, Or.inr ⟨c9, _, hal_rd_1, hal_rd_3⟩, by rw [ht]; exact hP, hD⟩, hS.F ht⟩) hS.2.2 dX5_meanError_31
  · replace c9 : (r_ob u) = (0 : Int32) := c9
    refine lv_dconst0 hx hb dX5_meanError_12 ?_
    refine lv_goto (tgt := 31) hx hb dX5_meanError_13 (by decide) ?_
    refine W.endD hd0 ?_
    exact W.dret (v := FP.dconst0) hx hb hr (fun t ht hW => ⟨⟨FP.dconst0, (), rfl, Or.inl ⟨c9, rfl⟩, by rw [ht]; exact hP, hD⟩, hS.F ht⟩) hS.2.2 dX5_meanError_31

set_option maxHeartbeats 4000000 in
set_option maxRecDepth 100000 in
theorem c_X5_ratio (l : Launch) (D : va_G) (cI cL cM : ClassId) (A : Nat → Prop) (b : Nat → Nat) (u : RS) : mD l yX5_ratio wsX5_ratio ({ frames := 0, cells := 0, slots := 0, locals := 0 }) D (tB cI cL cM) A [.ref (b 0)] (rfW cI b u) (raPost (nI (r_sz u)) (nI (r_cs u))) (rfW cI b (rs_th u 0)) := by
  refine MetD.ofW (cc := cX5_ratio) (maxL := 1) (ret := (some .double)) (by decide) rfl ?_
  intro p e s m args below meth c s₁ B hml hv hd0
  obtain ⟨rfl, hP, hE, hD, hA⟩ := hv
  have hK := hE.1
  have hx := B.exec
  have hb := B.bytes
  have hr := B.returns
  have hts := dr_words (atoms_spec (ws := wsX5_ratio) B.pre) s.drawn
  have hown : s.vm.findClass RX5 = some m.cls := findClass_of_methodNamed B.named
  have hlocks := B.notSynchronized
  have hS : va_S A s.heap s.heap [] := va_S.rf
  have hl := lv_entry ([.ref (b 0)]) (n := 1) (Nat.le_of_ble_eq_true rfl)
  rw [lg_entry_eq]
  generalize (lg_sl ([.ref (b 0)]) ++ List.replicate (1 - (lg_sl ([.ref (b 0)])).length) Slot.unset).toArray = ls at hl ⊢
  have hl : lv_has ls 1 [(0, .ref (b 0))] := hl
  refine lv_aload_n hx hb dX5_ratio_0 rfl (lv_at hl 0 rfl) ?_
  refine lv_iconst (v := 0) hx hb dX5_ratio_1 (by decide) ?_
  refine va_put (D := D) (ci := 5) (v := .int 0) (ty := .int) (C := RX5) (T := TX5) (N := 22) hx hb hts (fun _ h => List.mem_cons_of_mem _ (List.mem_append_right _ h)) tyX5 tyX5_ok nmX5 hown hK hP hD hS 0 rfl rfl 0 (by decide) (hts _ (List.mem_of_getElem? (i := 1) rfl)) (fun _ h9 => h9) rfl (by decide +kernel) rfl rfl (Nat.le_of_ble_eq_true rfl) dX5_ratio_2 (fun H locs hP hD hS => ?_)
  rw [rfW_th] at hP hD
  have hP : va_P D vwCl (rfW cI b (rs_th u 0)) H := hP
  have hD : va_D A (rfW cI b (rs_th u 0)) := hD
  refine lv_aload_n hx hb dX5_ratio_5 rfl (lv_at hl 0 rfl) ?_
  refine va_get (D := D) (ci := 5) (v := .int (nI (r_sz u))) (C := RX5) (T := TX5) (N := 22) hx hb hts (fun _ h => List.mem_cons_of_mem _ (List.mem_append_right _ h)) hown hK hP 0 rfl rfl 5 (by decide) (hts _ (List.mem_of_getElem? (i := 2) rfl)) (fun _ h9 => h9) rfl dX5_ratio_6 ?_
  refine lv_if_ne (tgt := 16) hx hb dX5_ratio_9 (by decide) (fun c9 => ?_) (fun c9 => ?_)
  · replace c9 : ¬ (nI (r_sz u)) = (0 : Int32) := c9
    refine lv_aload_n hx hb dX5_ratio_16 rfl (lv_at hl 0 rfl) ?_
    refine va_get (D := D) (ci := 5) (v := .int (nI (r_cs u))) (C := RX5) (T := TX5) (N := 22) hx hb hts (fun _ h => List.mem_cons_of_mem _ (List.mem_append_right _ h)) hown hK hP 0 rfl rfl 16 (by decide) (hts _ (List.mem_of_getElem? (i := 3) rfl)) (fun _ h9 => h9) rfl dX5_ratio_17 ?_
    refine lv_i2d hx hb dX5_ratio_20 ?_
    refine lv_aload_n hx hb dX5_ratio_21 rfl (lv_at hl 0 rfl) ?_
    refine va_get (D := D) (ci := 5) (v := .int (nI (r_sz u))) (C := RX5) (T := TX5) (N := 22) hx hb hts (fun _ h => List.mem_cons_of_mem _ (List.mem_append_right _ h)) hown hK hP 0 rfl rfl 5 (by decide) (hts _ (List.mem_of_getElem? (i := 2) rfl)) (fun _ h9 => h9) rfl dX5_ratio_22 ?_
    refine lv_i2d hx hb dX5_ratio_25 ?_
    refine lv_ddiv_any hd0 lw_bits hx hb dX5_ratio_26 (fun rd_1 dr_2 hal_rd_1 hd_dr_2 => ?_)
    refine W.endD hd_dr_2 ?_
    exact W.dret (v := rd_1) hx hb hr (fun t ht hW => ⟨⟨rd_1, (), rfl, Or.inr ⟨c9, hal_rd_1⟩, by rw [ht]; exact hP, hD⟩, hS.F ht⟩) hS.2.2 dX5_ratio_27
  · replace c9 : (nI (r_sz u)) = (0 : Int32) := c9
    refine lv_dconst0 hx hb dX5_ratio_12 ?_
    refine lv_goto (tgt := 27) hx hb dX5_ratio_13 (by decide) ?_
    refine W.endD hd0 ?_
    exact W.dret (v := FP.dconst0) hx hb hr (fun t ht hW => ⟨⟨FP.dconst0, (), rfl, Or.inl ⟨c9, rfl⟩, by rw [ht]; exact hP, hD⟩, hS.F ht⟩) hS.2.2 dX5_ratio_27
