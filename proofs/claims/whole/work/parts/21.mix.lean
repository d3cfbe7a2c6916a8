/-! ===== BitMixer: its world ===== -/
def segI : Nat → Nat → List Nat
  | _, 0 => []
  | k, n + 1 => k :: segI (k + 1) n
theorem putW_seg : ∀ (C C' X Y : va_W), C'.length = C.length → putW (X ++ (C ++ Y)) (segI X.length C.length) C' = X ++ (C' ++ Y)
  | [], [], X, Y, _ => rfl
  | [], c' :: C', X, Y, h => by simp at h
  | c :: C, [], X, Y, h => by simp at h
  | c :: C, c' :: C', X, Y, h => by
    have h2 : C'.length = C.length := by simpa using h
    have e : (X ++ (c :: (C ++ Y))).set X.length c' = (X ++ [c']) ++ (C ++ Y) := by
      rw [List.set_append_right _ _ (Nat.le_refl _), Nat.sub_self, List.append_assoc]
      rfl
    have q := putW_seg C C' (X ++ [c']) Y h2
    rw [show (X ++ [c']).length = X.length + 1 from by simp] at q
    show putW ((X ++ (c :: (C ++ Y))).set X.length c') (segI (X.length + 1) C.length) C' = X ++ (c' :: (C' ++ Y))
    rw [e, q, List.append_assoc]
    rfl
section MXW
variable (cI cL cM : ClassId) (a : Nat → Nat) (x : Mx)
theorem mxW_tx (r : Row) : putW (mxW cI cL cM a x) [1, 2] (rowW cI (a 1) (a 2) 80 r) = mxW cI cL cM a (xs_tx x r) := rfl
theorem mxW_en (r : Row) : putW (mxW cI cL cM a x) [3, 4] (rowW cI (a 3) (a 4) 2564 r) = mxW cI cL cM a (xs_en x r) := rfl
theorem mxW_de (r : Row) : putW (mxW cI cL cM a x) [5, 6] (rowW cI (a 5) (a 6) 80 r) = mxW cI cL cM a (xs_de x r) := rfl
theorem mxW_iv (v : Iv) : putW (mxW cI cL cM a x) [34] (ivW (a 10) v) = mxW cI cL cM a (xs_iv x v) := rfl
theorem mxW_ie (v : IR) : putW (mxW cI cL cM a x) [34, 3, 4] (irW cI (a 10) (a 3) (a 4) 2564 v) = mxW cI cL cM a (xs_iv (xs_en x (i_r v)) (i_v v)) := rfl
theorem mxW_pr (k : Pr) : putW (mxW cI cL cM a x) [7, 8, 9, 10, 11, 12, 13, 14, 15, 16, 17, 18, 19, 20, 21, 22, 23, 24, 25, 26, 27, 28, 29, 30, 31, 32, 33] (prW cI cL cM a k) = mxW cI cL cM a (xs_pr x k) :=
  putW_seg (prW cI cL cM a (x_pr x)) (prW cI cL cM a k) [(a 0, .inr (4, [.ref (a 1), .ref (a 3), .ref (a 5), .ref (a 7), .ref (a 10)])), (a 1, .inr (0, [.ref (a 2), .int (nI (q_c (x_tx x)))])), (a 2, .inl (cI, 80, .inl (q_f (x_tx x)))), (a 3, .inr (0, [.ref (a 4), .int (nI (q_c (x_en x)))])), (a 4, .inl (cI, 2564, .inl (q_f (x_en x)))), (a 5, .inr (0, [.ref (a 6), .int (nI (q_c (x_de x)))])), (a 6, .inl (cI, 80, .inl (q_f (x_de x))))] (ivW (a 10) (x_iv x)) rfl
theorem xs_tx_self : xs_tx x (x_tx x) = x := rfl
theorem xs_en_self : xs_en x (x_en x) = x := rfl
theorem xs_de_self : xs_de x (x_de x) = x := rfl
theorem xs_pr_self : xs_pr x (x_pr x) = x := rfl
theorem xs_iv_self : xs_iv x (x_iv x) = x := rfl
end MXW

set_option maxHeartbeats 4000000 in
set_option maxRecDepth 100000 in
theorem c_X4_modelCount (l : Launch) (D : va_G) (cI cL cM : ClassId) (A : Nat → Prop) (a : Nat → Nat) (x : Mx)  : mI l yX4_modelCount wsX4_modelCount ({ frames := 0, cells := 0, slots := 0, locals := 0 }) D (tB cI cL cM) A [.ref (a 0)] (mxW cI cL cM a x) (nI (k_n (x_pr x))) (mxW cI cL cM a x) := by
  refine Met.ofW (cc := cX4_modelCount) (maxL := 1) (ret := (some .int)) (by decide) rfl ?_
  intro p e s m args below meth c s₁ B hml hv
  obtain ⟨rfl, hP, hE, hD, hA⟩ := hv
  have hK := hE.1
  have hx := B.exec
  have hb := B.bytes
  have hr := B.returns
  have hts := atoms_spec (ws := wsX4_modelCount) B.pre
  have hown : s.vm.findClass RX4 = some m.cls := findClass_of_methodNamed B.named
  have hlocks := B.notSynchronized
  have hS : va_S A s.heap s.heap [] := va_S.rf
  have hl := lv_entry ([.ref (a 0)]) (n := 1) (Nat.le_of_ble_eq_true rfl)
  rw [lg_entry_eq]
  generalize (lg_sl ([.ref (a 0)]) ++ List.replicate (1 - (lg_sl ([.ref (a 0)])).length) Slot.unset).toArray = ls at hl ⊢
  have hl : lv_has ls 1 [(0, .ref (a 0))] := hl
  refine lv_aload_n hx hb dX4_modelCount_0 rfl (lv_at hl 0 rfl) ?_
  refine va_get (D := D) (ci := 4) (v := .ref (a 7)) (C := RX4) (T := TX4) (N := 5) hx hb hts (fun _ h => List.mem_cons_of_mem _ (List.mem_append_left _ (List.mem_append_right _ h))) hown hK hP 0 rfl rfl 3 (by decide) (hts _ (List.mem_of_getElem? (i := 1) rfl)) (fun _ h9 => h9) rfl dX4_modelCount_1 ?_
  refine va_get (D := D) (ci := 3) (v := .int (nI (k_n (x_pr x)))) (C := RX3) (T := TX3) (N := 7) hx hb hts (fun _ h => List.mem_cons_of_mem _ (List.mem_append_right _ h)) hown hK hP 7 rfl rfl 1 (by decide) (hts _ (List.mem_of_getElem? (i := 2) rfl)) (fun _ h9 => h9) rfl dX4_modelCount_4 ?_
  exact W.iret (v := nI (k_n (x_pr x))) hx hb hr (fun t ht hW => ⟨⟨(nI (k_n (x_pr x))), (), rfl, by rfl, by rw [ht]; exact hP, hD⟩, hS.F ht⟩) hS.2.2 dX4_modelCount_7

set_option maxHeartbeats 4000000 in
set_option maxRecDepth 100000 in
theorem c_X4_size (l : Launch) (D : va_G) (cI cL cM : ClassId) (A : Nat → Prop) (a : Nat → Nat) (x : Mx)  : mI l yX4_size wsX4_size ({ frames := 0, cells := 0, slots := 0, locals := 0 }) D (tB cI cL cM) A [.ref (a 0)] (mxW cI cL cM a x) (nI (q_c (x_tx x))) (mxW cI cL cM a x) := by
  refine Met.ofW (cc := cX4_size) (maxL := 1) (ret := (some .int)) (by decide) rfl ?_
  intro p e s m args below meth c s₁ B hml hv
  obtain ⟨rfl, hP, hE, hD, hA⟩ := hv
  have hK := hE.1
  have hx := B.exec
  have hb := B.bytes
  have hr := B.returns
  have hts := atoms_spec (ws := wsX4_size) B.pre
  have hown : s.vm.findClass RX4 = some m.cls := findClass_of_methodNamed B.named
  have hlocks := B.notSynchronized
  have hS : va_S A s.heap s.heap [] := va_S.rf
  have hl := lv_entry ([.ref (a 0)]) (n := 1) (Nat.le_of_ble_eq_true rfl)
  rw [lg_entry_eq]
  generalize (lg_sl ([.ref (a 0)]) ++ List.replicate (1 - (lg_sl ([.ref (a 0)])).length) Slot.unset).toArray = ls at hl ⊢
  have hl : lv_has ls 1 [(0, .ref (a 0))] := hl
  refine lv_aload_n hx hb dX4_size_0 rfl (lv_at hl 0 rfl) ?_
  refine va_get (D := D) (ci := 4) (v := .ref (a 1)) (C := RX4) (T := TX4) (N := 5) hx hb hts (fun _ h => List.mem_cons_of_mem _ (List.mem_append_left _ (List.mem_append_right _ h))) hown hK hP 0 rfl rfl 0 (by decide) (hts _ (List.mem_of_getElem? (i := 1) rfl)) (fun _ h9 => h9) rfl dX4_size_1 ?_
  refine va_get (D := D) (ci := 0) (v := .int (nI (q_c (x_tx x)))) (C := RX0) (T := TX0) (N := 2) hx hb hts (fun _ h => List.mem_cons_of_mem _ (List.mem_append_right _ h)) hown hK hP 1 rfl rfl 1 (by decide) (hts _ (List.mem_of_getElem? (i := 2) rfl)) (fun _ h9 => h9) rfl dX4_size_4 ?_
  exact W.iret (v := nI (q_c (x_tx x))) hx hb hr (fun t ht hW => ⟨⟨(nI (q_c (x_tx x))), (), rfl, by rfl, by rw [ht]; exact hP, hD⟩, hS.F ht⟩) hS.2.2 dX4_size_7

set_option maxHeartbeats 4000000 in
set_option maxRecDepth 100000 in
theorem c_X4_codeSize (l : Launch) (D : va_G) (cI cL cM : ClassId) (A : Nat → Prop) (a : Nat → Nat) (x : Mx)  : mI l yX4_codeSize wsX4_codeSize ({ frames := 0, cells := 0, slots := 0, locals := 0 }) D (tB cI cL cM) A [.ref (a 0)] (mxW cI cL cM a x) (nI (q_c (x_en x))) (mxW cI cL cM a x) := by
  refine Met.ofW (cc := cX4_codeSize) (maxL := 1) (ret := (some .int)) (by decide) rfl ?_
  intro p e s m args below meth c s₁ B hml hv
  obtain ⟨rfl, hP, hE, hD, hA⟩ := hv
  have hK := hE.1
  have hx := B.exec
  have hb := B.bytes
  have hr := B.returns
  have hts := atoms_spec (ws := wsX4_codeSize) B.pre
  have hown : s.vm.findClass RX4 = some m.cls := findClass_of_methodNamed B.named
  have hlocks := B.notSynchronized
  have hS : va_S A s.heap s.heap [] := va_S.rf
  have hl := lv_entry ([.ref (a 0)]) (n := 1) (Nat.le_of_ble_eq_true rfl)
  rw [lg_entry_eq]
  generalize (lg_sl ([.ref (a 0)]) ++ List.replicate (1 - (lg_sl ([.ref (a 0)])).length) Slot.unset).toArray = ls at hl ⊢
  have hl : lv_has ls 1 [(0, .ref (a 0))] := hl
  refine lv_aload_n hx hb dX4_codeSize_0 rfl (lv_at hl 0 rfl) ?_
  refine va_get (D := D) (ci := 4) (v := .ref (a 3)) (C := RX4) (T := TX4) (N := 5) hx hb hts (fun _ h => List.mem_cons_of_mem _ (List.mem_append_left _ (List.mem_append_right _ h))) hown hK hP 0 rfl rfl 1 (by decide) (hts _ (List.mem_of_getElem? (i := 1) rfl)) (fun _ h9 => h9) rfl dX4_codeSize_1 ?_
  refine va_get (D := D) (ci := 0) (v := .int (nI (q_c (x_en x)))) (C := RX0) (T := TX0) (N := 2) hx hb hts (fun _ h => List.mem_cons_of_mem _ (List.mem_append_right _ h)) hown hK hP 3 rfl rfl 1 (by decide) (hts _ (List.mem_of_getElem? (i := 2) rfl)) (fun _ h9 => h9) rfl dX4_codeSize_4 ?_
  exact W.iret (v := nI (q_c (x_en x))) hx hb hr (fun t ht hW => ⟨⟨(nI (q_c (x_en x))), (), rfl, by rfl, by rw [ht]; exact hP, hD⟩, hS.F ht⟩) hS.2.2 dX4_codeSize_7

set_option maxHeartbeats 4000000 in
set_option maxRecDepth 100000 in
theorem c_X4_outputSize (l : Launch) (D : va_G) (cI cL cM : ClassId) (A : Nat → Prop) (a : Nat → Nat) (x : Mx)  : mI l yX4_outputSize wsX4_outputSize ({ frames := 0, cells := 0, slots := 0, locals := 0 }) D (tB cI cL cM) A [.ref (a 0)] (mxW cI cL cM a x) (nI (q_c (x_de x))) (mxW cI cL cM a x) := by
  refine Met.ofW (cc := cX4_outputSize) (maxL := 1) (ret := (some .int)) (by decide) rfl ?_
  intro p e s m args below meth c s₁ B hml hv
  obtain ⟨rfl, hP, hE, hD, hA⟩ := hv
  have hK := hE.1
  have hx := B.exec
  have hb := B.bytes
  have hr := B.returns
  have hts := atoms_spec (ws := wsX4_outputSize) B.pre
  have hown : s.vm.findClass RX4 = some m.cls := findClass_of_methodNamed B.named
  have hlocks := B.notSynchronized
  have hS : va_S A s.heap s.heap [] := va_S.rf
  have hl := lv_entry ([.ref (a 0)]) (n := 1) (Nat.le_of_ble_eq_true rfl)
  rw [lg_entry_eq]
  generalize (lg_sl ([.ref (a 0)]) ++ List.replicate (1 - (lg_sl ([.ref (a 0)])).length) Slot.unset).toArray = ls at hl ⊢
  have hl : lv_has ls 1 [(0, .ref (a 0))] := hl
  refine lv_aload_n hx hb dX4_outputSize_0 rfl (lv_at hl 0 rfl) ?_
  refine va_get (D := D) (ci := 4) (v := .ref (a 5)) (C := RX4) (T := TX4) (N := 5) hx hb hts (fun _ h => List.mem_cons_of_mem _ (List.mem_append_left _ (List.mem_append_right _ h))) hown hK hP 0 rfl rfl 2 (by decide) (hts _ (List.mem_of_getElem? (i := 1) rfl)) (fun _ h9 => h9) rfl dX4_outputSize_1 ?_
  refine va_get (D := D) (ci := 0) (v := .int (nI (q_c (x_de x)))) (C := RX0) (T := TX0) (N := 2) hx hb hts (fun _ h => List.mem_cons_of_mem _ (List.mem_append_right _ h)) hown hK hP 5 rfl rfl 1 (by decide) (hts _ (List.mem_of_getElem? (i := 2) rfl)) (fun _ h9 => h9) rfl dX4_outputSize_4 ?_
  exact W.iret (v := nI (q_c (x_de x))) hx hb hr (fun t ht hW => ⟨⟨(nI (q_c (x_de x))), (), rfl, by rfl, by rw [ht]; exact hP, hD⟩, hS.F ht⟩) hS.2.2 dX4_outputSize_7

set_option maxHeartbeats 4000000 in
set_option maxRecDepth 100000 in
theorem c_X4_node (l : Launch) (D : va_G) (cI cL cM : ClassId) (A : Nat → Prop) (a : Nat → Nat) (x : Mx)  : mI l yX4_node wsX4_node ({ frames := 0, cells := 0, slots := 0, locals := 0 }) D (tB cI cL cM) A [.ref (a 0)] (mxW cI cL cM a x) (nI (k_nd (x_pr x))) (mxW cI cL cM a x) := by
  refine Met.ofW (cc := cX4_node) (maxL := 1) (ret := (some .int)) (by decide) rfl ?_
  intro p e s m args below meth c s₁ B hml hv
  obtain ⟨rfl, hP, hE, hD, hA⟩ := hv
  have hK := hE.1
  have hx := B.exec
  have hb := B.bytes
  have hr := B.returns
  have hts := atoms_spec (ws := wsX4_node) B.pre
  have hown : s.vm.findClass RX4 = some m.cls := findClass_of_methodNamed B.named
  have hlocks := B.notSynchronized
  have hS : va_S A s.heap s.heap [] := va_S.rf
  have hl := lv_entry ([.ref (a 0)]) (n := 1) (Nat.le_of_ble_eq_true rfl)
  rw [lg_entry_eq]
  generalize (lg_sl ([.ref (a 0)]) ++ List.replicate (1 - (lg_sl ([.ref (a 0)])).length) Slot.unset).toArray = ls at hl ⊢
  have hl : lv_has ls 1 [(0, .ref (a 0))] := hl
  refine lv_aload_n hx hb dX4_node_0 rfl (lv_at hl 0 rfl) ?_
  refine va_get (D := D) (ci := 4) (v := .ref (a 7)) (C := RX4) (T := TX4) (N := 5) hx hb hts (fun _ h => List.mem_cons_of_mem _ (List.mem_append_left _ (List.mem_append_right _ h))) hown hK hP 0 rfl rfl 3 (by decide) (hts _ (List.mem_of_getElem? (i := 1) rfl)) (fun _ h9 => h9) rfl dX4_node_1 ?_
  refine va_get (D := D) (ci := 3) (v := .int (nI (k_nd (x_pr x)))) (C := RX3) (T := TX3) (N := 7) hx hb hts (fun _ h => List.mem_cons_of_mem _ (List.mem_append_right _ h)) hown hK hP 7 rfl rfl 3 (by decide) (hts _ (List.mem_of_getElem? (i := 2) rfl)) (fun _ h9 => h9) rfl dX4_node_4 ?_
  exact W.iret (v := nI (k_nd (x_pr x))) hx hb hr (fun t ht hW => ⟨⟨(nI (k_nd (x_pr x))), (), rfl, by rfl, by rw [ht]; exact hP, hD⟩, hS.F ht⟩) hS.2.2 dX4_node_7

set_option maxHeartbeats 4000000 in
set_option maxRecDepth 100000 in
theorem c_X4_observed (l : Launch) (D : va_G) (cI cL cM : ClassId) (A : Nat → Prop) (a : Nat → Nat) (x : Mx)  : mI l yX4_observed wsX4_observed ({ frames := 0, cells := 0, slots := 0, locals := 0 }) D (tB cI cL cM) A [.ref (a 0)] (mxW cI cL cM a x) (k_bt (x_pr x)) (mxW cI cL cM a x) := by
  refine Met.ofW (cc := cX4_observed) (maxL := 1) (ret := (some .int)) (by decide) rfl ?_
  intro p e s m args below meth c s₁ B hml hv
  obtain ⟨rfl, hP, hE, hD, hA⟩ := hv
  have hK := hE.1
  have hx := B.exec
  have hb := B.bytes
  have hr := B.returns
  have hts := atoms_spec (ws := wsX4_observed) B.pre
  have hown : s.vm.findClass RX4 = some m.cls := findClass_of_methodNamed B.named
  have hlocks := B.notSynchronized
  have hS : va_S A s.heap s.heap [] := va_S.rf
  have hl := lv_entry ([.ref (a 0)]) (n := 1) (Nat.le_of_ble_eq_true rfl)
  rw [lg_entry_eq]
  generalize (lg_sl ([.ref (a 0)]) ++ List.replicate (1 - (lg_sl ([.ref (a 0)])).length) Slot.unset).toArray = ls at hl ⊢
  have hl : lv_has ls 1 [(0, .ref (a 0))] := hl
  refine lv_aload_n hx hb dX4_observed_0 rfl (lv_at hl 0 rfl) ?_
  refine va_get (D := D) (ci := 4) (v := .ref (a 7)) (C := RX4) (T := TX4) (N := 5) hx hb hts (fun _ h => List.mem_cons_of_mem _ (List.mem_append_left _ (List.mem_append_right _ h))) hown hK hP 0 rfl rfl 3 (by decide) (hts _ (List.mem_of_getElem? (i := 1) rfl)) (fun _ h9 => h9) rfl dX4_observed_1 ?_
  refine va_get (D := D) (ci := 3) (v := .int (k_bt (x_pr x))) (C := RX3) (T := TX3) (N := 7) hx hb hts (fun _ h => List.mem_cons_of_mem _ (List.mem_append_right _ h)) hown hK hP 7 rfl rfl 5 (by decide) (hts _ (List.mem_of_getElem? (i := 2) rfl)) (fun _ h9 => h9) rfl dX4_observed_4 ?_
  exact W.iret (v := (k_bt (x_pr x))) hx hb hr (fun t ht hW => ⟨⟨(k_bt (x_pr x)), (), rfl, by rfl, by rw [ht]; exact hP, hD⟩, hS.F ht⟩) hS.2.2 dX4_observed_7

set_option maxHeartbeats 4000000 in
set_option maxRecDepth 100000 in
theorem c_X4_error (l : Launch) (D : va_G) (cI cL cM : ClassId) (A : Nat → Prop) (a : Nat → Nat) (x : Mx)  : mL l yX4_error wsX4_error ({ frames := 0, cells := 0, slots := 0, locals := 0 }) D (tB cI cL cM) A [.ref (a 0)] (mxW cI cL cM a x) (k_er (x_pr x)) (mxW cI cL cM a x) := by
  refine Met.ofW (cc := cX4_error) (maxL := 1) (ret := (some .long)) (by decide) rfl ?_
  intro p e s m args below meth c s₁ B hml hv
  obtain ⟨rfl, hP, hE, hD, hA⟩ := hv
  have hK := hE.1
  have hx := B.exec
  have hb := B.bytes
  have hr := B.returns
  have hts := atoms_spec (ws := wsX4_error) B.pre
  have hown : s.vm.findClass RX4 = some m.cls := findClass_of_methodNamed B.named
  have hlocks := B.notSynchronized
  have hS : va_S A s.heap s.heap [] := va_S.rf
  have hl := lv_entry ([.ref (a 0)]) (n := 1) (Nat.le_of_ble_eq_true rfl)
  rw [lg_entry_eq]
  generalize (lg_sl ([.ref (a 0)]) ++ List.replicate (1 - (lg_sl ([.ref (a 0)])).length) Slot.unset).toArray = ls at hl ⊢
  have hl : lv_has ls 1 [(0, .ref (a 0))] := hl
  refine lv_aload_n hx hb dX4_error_0 rfl (lv_at hl 0 rfl) ?_
  refine va_get (D := D) (ci := 4) (v := .ref (a 7)) (C := RX4) (T := TX4) (N := 5) hx hb hts (fun _ h => List.mem_cons_of_mem _ (List.mem_append_left _ (List.mem_append_right _ h))) hown hK hP 0 rfl rfl 3 (by decide) (hts _ (List.mem_of_getElem? (i := 1) rfl)) (fun _ h9 => h9) rfl dX4_error_1 ?_
  refine va_get (D := D) (ci := 3) (v := .long (k_er (x_pr x))) (C := RX3) (T := TX3) (N := 7) hx hb hts (fun _ h => List.mem_cons_of_mem _ (List.mem_append_right _ h)) hown hK hP 7 rfl rfl 6 (by decide) (hts _ (List.mem_of_getElem? (i := 2) rfl)) (fun _ h9 => h9) rfl dX4_error_4 ?_
  exact W.lret (v := (k_er (x_pr x))) hx hb hr (fun t ht hW => ⟨⟨(k_er (x_pr x)), (), rfl, by rfl, by rw [ht]; exact hP, hD⟩, hS.F ht⟩) hS.2.2 dX4_error_7

set_option maxHeartbeats 4000000 in
set_option maxRecDepth 100000 in
theorem c_X4_mixed (l : Launch) (D : va_G) (cI cL cM : ClassId) (A : Nat → Prop) (a : Nat → Nat) (x : Mx) (hn6 : k_n (x_pr x) ≤ 6) (hph : vp_in (k_ph (x_pr x)) 8) (hpl : ∀ j, j < k_n (x_pr x) → vp_in (o_pl (k_mo (x_pr x) j)) 512) : mI l yX4_mixed wsX4_mixed ({ frames := 2, cells := 0, slots := 0, locals := 48 }) D (tB cI cL cM) A [.ref (a 0)] (mxW cI cL cM a x) (k_mx (x_pr x)) (mxW cI cL cM a x) := by
  refine Met.ofW (cc := cX4_mixed) (maxL := 1) (ret := (some .int)) (by decide) rfl ?_
  intro p e s m args below meth c s₁ B hml hv
  obtain ⟨rfl, hP, hE, hD, hA⟩ := hv
  have hK := hE.1
  have hx := B.exec
  have hb := B.bytes
  have hr := B.returns
  have hts := atoms_spec (ws := wsX4_mixed) B.pre
  have hown : s.vm.findClass RX4 = some m.cls := findClass_of_methodNamed B.named
  have hlocks := B.notSynchronized
  have hS : va_S A s.heap s.heap [] := va_S.rf
  have hl := lv_entry ([.ref (a 0)]) (n := 1) (Nat.le_of_ble_eq_true rfl)
  rw [lg_entry_eq]
  generalize (lg_sl ([.ref (a 0)]) ++ List.replicate (1 - (lg_sl ([.ref (a 0)])).length) Slot.unset).toArray = ls at hl ⊢
  have hl : lv_has ls 1 [(0, .ref (a 0))] := hl
  refine lv_aload_n hx hb dX4_mixed_0 rfl (lv_at hl 0 rfl) ?_
  refine va_get (D := D) (ci := 4) (v := .ref (a 7)) (C := RX4) (T := TX4) (N := 5) hx hb hts (fun _ h => List.mem_cons_of_mem _ (List.mem_append_left _ (List.mem_append_left _ (List.mem_append_right _ h)))) hown hK hP 0 rfl rfl 3 (by decide) (hts _ (List.mem_of_getElem? (i := 1) rfl)) (fun _ h9 => h9) rfl dX4_mixed_1 ?_
  refine kI (rV (As := []) (rest := []) ⟨hx, hb, hml, hown, hts⟩ (c_X3_mixture l D cI cL cM _ a (x_pr x)  hn6 hph hpl) (cwV 0 hts gX4_mixed_X3_mixture rfl rfl rfl (by decide +kernel) ⟨(Nat.le_of_ble_eq_true rfl), (Nat.le_of_ble_eq_true rfl)⟩) hE hP hD [7, 8, 9, 10, 11, 12, 13, 14, 15, 16, 17, 18, 19, 20, 21, 22, 23, 24, 25, 26, 27, 28, 29, 30, 31, 32, 33] rfl rfl rfl rfl rfl hl.1 rfl (Nat.le_of_ble_eq_true rfl) dX4_mixed_4 ⟨(Nat.le_of_ble_eq_true rfl), (Nat.le_of_ble_eq_true rfl)⟩) hP hD hS hA (is := [7, 8, 9, 10, 11, 12, 13, 14, 15, 16, 17, 18, 19, 20, 21, 22, 23, 24, 25, 26, 27, 28, 29, 30, 31, 32, 33]) rfl rfl (fun H locs hP hD hS => ?_)
  rw [mxW_pr, xs_pr_self] at hP hD
  have hP : va_P D vwCl (mxW cI cL cM a x) H := hP
  have hD : va_D A (mxW cI cL cM a x) := hD
  exact W.iret (v := (k_mx (x_pr x))) hx hb hr (fun t ht hW => ⟨⟨(k_mx (x_pr x)), (), rfl, by rfl, by rw [ht]; exact hP, hD⟩, hS.F ht⟩) hS.2.2 dX4_mixed_7

set_option maxHeartbeats 4000000 in
set_option maxRecDepth 100000 in
theorem c_X4_leader (l : Launch) (D : va_G) (cI cL cM : ClassId) (A : Nat → Prop) (a : Nat → Nat) (x : Mx) (hn6 : k_n (x_pr x) ≤ 6) (hph : vp_in (k_ph (x_pr x)) 8) : mI l yX4_leader wsX4_leader ({ frames := 1, cells := 0, slots := 0, locals := 23 }) D (tB cI cL cM) A [.ref (a 0)] (mxW cI cL cM a x) ((hvy (k_w (x_pr x)) (k_n (x_pr x))).1) (mxW cI cL cM a x) := by
  refine Met.ofW (cc := cX4_leader) (maxL := 1) (ret := (some .int)) (by decide) rfl ?_
  intro p e s m args below meth c s₁ B hml hv
  obtain ⟨rfl, hP, hE, hD, hA⟩ := hv
  have hK := hE.1
  have hx := B.exec
  have hb := B.bytes
  have hr := B.returns
  have hts := atoms_spec (ws := wsX4_leader) B.pre
  have hown : s.vm.findClass RX4 = some m.cls := findClass_of_methodNamed B.named
  have hlocks := B.notSynchronized
  have hS : va_S A s.heap s.heap [] := va_S.rf
  have hl := lv_entry ([.ref (a 0)]) (n := 1) (Nat.le_of_ble_eq_true rfl)
  rw [lg_entry_eq]
  generalize (lg_sl ([.ref (a 0)]) ++ List.replicate (1 - (lg_sl ([.ref (a 0)])).length) Slot.unset).toArray = ls at hl ⊢
  have hl : lv_has ls 1 [(0, .ref (a 0))] := hl
  refine lv_aload_n hx hb dX4_leader_0 rfl (lv_at hl 0 rfl) ?_
  refine va_get (D := D) (ci := 4) (v := .ref (a 7)) (C := RX4) (T := TX4) (N := 5) hx hb hts (fun _ h => List.mem_cons_of_mem _ (List.mem_append_left _ (List.mem_append_left _ (List.mem_append_right _ h)))) hown hK hP 0 rfl rfl 3 (by decide) (hts _ (List.mem_of_getElem? (i := 1) rfl)) (fun _ h9 => h9) rfl dX4_leader_1 ?_
  refine kI (rV (As := []) (rest := []) ⟨hx, hb, hml, hown, hts⟩ (c_X3_heaviest l D cI cL cM _ a (x_pr x)  hn6 hph) (cwV 0 hts gX4_leader_X3_heaviest rfl rfl rfl (by decide +kernel) ⟨(Nat.le_of_ble_eq_true rfl), (Nat.le_of_ble_eq_true rfl)⟩) hE hP hD [7, 8, 9, 10, 11, 12, 13, 14, 15, 16, 17, 18, 19, 20, 21, 22, 23, 24, 25, 26, 27, 28, 29, 30, 31, 32, 33] rfl rfl rfl rfl rfl hl.1 rfl (Nat.le_of_ble_eq_true rfl) dX4_leader_4 ⟨(Nat.le_of_ble_eq_true rfl), (Nat.le_of_ble_eq_true rfl)⟩) hP hD hS hA (is := [7, 8, 9, 10, 11, 12, 13, 14, 15, 16, 17, 18, 19, 20, 21, 22, 23, 24, 25, 26, 27, 28, 29, 30, 31, 32, 33]) rfl rfl (fun H locs hP hD hS => ?_)
  rw [mxW_pr, xs_pr_self] at hP hD
  have hP : va_P D vwCl (mxW cI cL cM a x) H := hP
  have hD : va_D A (mxW cI cL cM a x) := hD
  exact W.iret (v := ((hvy (k_w (x_pr x)) (k_n (x_pr x))).1)) hx hb hr (fun t ht hW => ⟨⟨((hvy (k_w (x_pr x)) (k_n (x_pr x))).1), (), rfl, by rfl, by rw [ht]; exact hP, hD⟩, hS.F ht⟩) hS.2.2 dX4_leader_7

set_option maxHeartbeats 4000000 in
set_option maxRecDepth 100000 in
theorem c_X4_reset (l : Launch) (D : va_G) (cI cL cM : ClassId) (A : Nat → Prop) (a : Nat → Nat) (x : Mx) (hn6 : k_n (x_pr x) ≤ 6) : mI l yX4_reset wsX4_reset ({ frames := 5, cells := 0, slots := 0, locals := 107 }) D (tB cI cL cM) A [.ref (a 0)] (mxW cI cL cM a x) (k_bt (x_pr x)) (mxW cI cL cM a (xs_pr x (k_rs (x_pr x)))) := by
  refine Met.ofW (cc := cX4_reset) (maxL := 2) (ret := (some .int)) (by decide) rfl ?_
  intro p e s m args below meth c s₁ B hml hv
  obtain ⟨rfl, hP, hE, hD, hA⟩ := hv
  have hK := hE.1
  have hx := B.exec
  have hb := B.bytes
  have hr := B.returns
  have hts := atoms_spec (ws := wsX4_reset) B.pre
  have hown : s.vm.findClass RX4 = some m.cls := findClass_of_methodNamed B.named
  have hlocks := B.notSynchronized
  have hS : va_S A s.heap s.heap [] := va_S.rf
  have hl := lv_entry ([.ref (a 0)]) (n := 2) (Nat.le_of_ble_eq_true rfl)
  rw [lg_entry_eq]
  generalize (lg_sl ([.ref (a 0)]) ++ List.replicate (2 - (lg_sl ([.ref (a 0)])).length) Slot.unset).toArray = ls at hl ⊢
  have hl : lv_has ls 2 [(0, .ref (a 0))] := hl
  refine lv_aload_n hx hb dX4_reset_0 rfl (lv_at hl 0 rfl) ?_
  refine va_get (D := D) (ci := 4) (v := .ref (a 7)) (C := RX4) (T := TX4) (N := 5) hx hb hts (fun _ h => List.mem_cons_of_mem _ (List.mem_append_left _ (List.mem_append_left _ (List.mem_append_right _ h)))) hown hK hP 0 rfl rfl 3 (by decide) (hts _ (List.mem_of_getElem? (i := 1) rfl)) (fun _ h9 => h9) rfl dX4_reset_1 ?_
  refine va_get (D := D) (ci := 3) (v := .int (k_bt (x_pr x))) (C := RX3) (T := TX3) (N := 7) hx hb hts (fun _ h => List.mem_cons_of_mem _ (List.mem_append_left _ (List.mem_append_right _ h))) hown hK hP 7 rfl rfl 5 (by decide) (hts _ (List.mem_of_getElem? (i := 2) rfl)) (fun _ h9 => h9) rfl dX4_reset_4 ?_
  refine lv_istore_n (lv' := [(1, .int (k_bt (x_pr x))), (0, .ref (a 0))]) hx hb dX4_reset_7 rfl hl (by decide) rfl (fun ls hl => ?_)
  refine lv_aload_n hx hb dX4_reset_8 rfl (lv_at hl 1 rfl) ?_
  refine va_get (D := D) (ci := 4) (v := .ref (a 7)) (C := RX4) (T := TX4) (N := 5) hx hb hts (fun _ h => List.mem_cons_of_mem _ (List.mem_append_left _ (List.mem_append_left _ (List.mem_append_right _ h)))) hown hK hP 0 rfl rfl 3 (by decide) (hts _ (List.mem_of_getElem? (i := 1) rfl)) (fun _ h9 => h9) rfl dX4_reset_9 ?_
  refine kV (rV (As := []) (rest := []) ⟨hx, hb, hml, hown, hts⟩ (c_X3_restart l D cI cL cM _ a (x_pr x)  hn6) (cwV 0 hts gX4_reset_X3_restart rfl rfl rfl (by decide +kernel) ⟨(Nat.le_of_ble_eq_true rfl), (Nat.le_of_ble_eq_true rfl)⟩) hE hP hD [7, 8, 9, 10, 11, 12, 13, 14, 15, 16, 17, 18, 19, 20, 21, 22, 23, 24, 25, 26, 27, 28, 29, 30, 31, 32, 33] rfl rfl rfl rfl rfl hl.1 rfl (Nat.le_of_ble_eq_true rfl) dX4_reset_12 ⟨(Nat.le_of_ble_eq_true rfl), (Nat.le_of_ble_eq_true rfl)⟩) hP hD hS hA (is := [7, 8, 9, 10, 11, 12, 13, 14, 15, 16, 17, 18, 19, 20, 21, 22, 23, 24, 25, 26, 27, 28, 29, 30, 31, 32, 33]) rfl rfl (fun H locs hP hD hS => ?_)
  rw [mxW_pr] at hP hD
  have hP : va_P D vwCl (mxW cI cL cM a (xs_pr x (k_rs (x_pr x)))) H := hP
  have hD : va_D A (mxW cI cL cM a (xs_pr x (k_rs (x_pr x)))) := hD
  refine lv_iload_n hx hb dX4_reset_15 rfl (lv_at hl 0 rfl) ?_
  exact W.iret (v := (k_bt (x_pr x))) hx hb hr (fun t ht hW => ⟨⟨(k_bt (x_pr x)), (), rfl, by rfl, by rw [ht]; exact hP, hD⟩, hS.F ht⟩) hS.2.2 dX4_reset_16

set_option maxHeartbeats 4000000 in
set_option maxRecDepth 100000 in
theorem c_X4_observe (l : Launch) (D : va_G) (cI cL cM : ClassId) (A : Nat → Prop) (a : Nat → Nat) (x : Mx) (z : Int32) (hn6 : k_n (x_pr x) ≤ 6) (hnd : k_nd (x_pr x) < 256) (hph : vp_in (k_ph (x_pr x)) 8) (hpl : ∀ j, j < k_n (x_pr x) → vp_in (o_pl (k_mo (x_pr x) j)) 512) : mI l yX4_observe wsX4_observe ({ frames := 5, cells := 0, slots := 0, locals := 110 }) D (tB cI cL cM) A [.ref (a 0), .int z] (mxW cI cL cM a x) (qual (k_mx (x_pr x)) z) (mxW cI cL cM a (xs_pr x (k_ln z (k_mx (x_pr x)) (x_pr x)))) := by
  refine Met.ofW (cc := cX4_observe) (maxL := 3) (ret := (some .int)) (by decide) rfl ?_
  intro p e s m args below meth c s₁ B hml hv
  obtain ⟨rfl, hP, hE, hD, hA⟩ := hv
  have hK := hE.1
  have hx := B.exec
  have hb := B.bytes
  have hr := B.returns
  have hts := atoms_spec (ws := wsX4_observe) B.pre
  have hown : s.vm.findClass RX4 = some m.cls := findClass_of_methodNamed B.named
  have hlocks := B.notSynchronized
  have hS : va_S A s.heap s.heap [] := va_S.rf
  have hl := lv_entry ([.ref (a 0), .int z]) (n := 3) (Nat.le_of_ble_eq_true rfl)
  rw [lg_entry_eq]
  generalize (lg_sl ([.ref (a 0), .int z]) ++ List.replicate (3 - (lg_sl ([.ref (a 0), .int z])).length) Slot.unset).toArray = ls at hl ⊢
  have hl : lv_has ls 3 [(0, .ref (a 0)), (1, .int z)] := hl
  refine lv_aload_n hx hb dX4_observe_0 rfl (lv_at hl 0 rfl) ?_
  refine va_get (D := D) (ci := 4) (v := .ref (a 7)) (C := RX4) (T := TX4) (N := 5) hx hb hts (fun _ h => List.mem_cons_of_mem _ (List.mem_append_left _ (List.mem_append_left _ (List.mem_append_right _ h)))) hown hK hP 0 rfl rfl 3 (by decide) (hts _ (List.mem_of_getElem? (i := 1) rfl)) (fun _ h9 => h9) rfl dX4_observe_1 ?_
  refine kI (rV (As := []) (rest := []) ⟨hx, hb, hml, hown, hts⟩ (c_X3_mixture l D cI cL cM _ a (x_pr x)  hn6 hph hpl) (cwV 0 hts gX4_observe_X3_mixture rfl rfl rfl (by decide +kernel) ⟨(Nat.le_of_ble_eq_true rfl), (Nat.le_of_ble_eq_true rfl)⟩) hE hP hD [7, 8, 9, 10, 11, 12, 13, 14, 15, 16, 17, 18, 19, 20, 21, 22, 23, 24, 25, 26, 27, 28, 29, 30, 31, 32, 33] rfl rfl rfl rfl rfl hl.1 rfl (Nat.le_of_ble_eq_true rfl) dX4_observe_4 ⟨(Nat.le_of_ble_eq_true rfl), (Nat.le_of_ble_eq_true rfl)⟩) hP hD hS hA (is := [7, 8, 9, 10, 11, 12, 13, 14, 15, 16, 17, 18, 19, 20, 21, 22, 23, 24, 25, 26, 27, 28, 29, 30, 31, 32, 33]) rfl rfl (fun H locs hP hD hS => ?_)
  rw [mxW_pr, xs_pr_self] at hP hD
  have hP : va_P D vwCl (mxW cI cL cM a x) H := hP
  have hD : va_D A (mxW cI cL cM a x) := hD
  refine lv_istore_n (lv' := [(2, .int (k_mx (x_pr x))), (0, .ref (a 0)), (1, .int z)]) hx hb dX4_observe_7 rfl hl (by decide) rfl (fun ls hl => ?_)
  refine lv_aload_n hx hb dX4_observe_8 rfl (lv_at hl 1 rfl) ?_
  refine va_get (D := D) (ci := 4) (v := .ref (a 7)) (C := RX4) (T := TX4) (N := 5) hx hb hts (fun _ h => List.mem_cons_of_mem _ (List.mem_append_left _ (List.mem_append_left _ (List.mem_append_right _ h)))) hown hK hP 0 rfl rfl 3 (by decide) (hts _ (List.mem_of_getElem? (i := 1) rfl)) (fun _ h9 => h9) rfl dX4_observe_9 ?_
  refine lv_iload_n hx hb dX4_observe_12 rfl (lv_at hl 2 rfl) ?_
  refine lv_iload_n hx hb dX4_observe_13 rfl (lv_at hl 0 rfl) ?_
  refine kV (rV (As := [.int z, .int (k_mx (x_pr x))]) (rest := []) ⟨hx, hb, hml, hown, hts⟩ (c_X3_learn l D cI cL cM _ a (x_pr x) z (k_mx (x_pr x)) hn6 hnd hph hpl) (cwV 2 hts gX4_observe_X3_learn rfl rfl rfl (by decide +kernel) ⟨(Nat.le_of_ble_eq_true rfl), (Nat.le_of_ble_eq_true rfl)⟩) hE hP hD [7, 8, 9, 10, 11, 12, 13, 14, 15, 16, 17, 18, 19, 20, 21, 22, 23, 24, 25, 26, 27, 28, 29, 30, 31, 32, 33] rfl rfl rfl rfl rfl hl.1 rfl (Nat.le_of_ble_eq_true rfl) dX4_observe_14 ⟨(Nat.le_of_ble_eq_true rfl), (Nat.le_of_ble_eq_true rfl)⟩) hP hD hS hA (is := [7, 8, 9, 10, 11, 12, 13, 14, 15, 16, 17, 18, 19, 20, 21, 22, 23, 24, 25, 26, 27, 28, 29, 30, 31, 32, 33]) rfl rfl (fun H locs hP hD hS => ?_)
  rw [mxW_pr] at hP hD
  have hP : va_P D vwCl (mxW cI cL cM a (xs_pr x (k_ln z (k_mx (x_pr x)) (x_pr x)))) H := hP
  have hD : va_D A (mxW cI cL cM a (xs_pr x (k_ln z (k_mx (x_pr x)) (x_pr x)))) := hD
  refine lv_iload_n hx hb dX4_observe_17 rfl (lv_at hl 0 rfl) ?_
  refine lv_iload_n hx hb dX4_observe_18 rfl (lv_at hl 2 rfl) ?_
  refine kI (rS (As := [.int (k_mx (x_pr x)), .int z]) (rest := []) ⟨hx, hb, hml, hown, hts⟩ (c_X4_quality l D cI cL cM _ (k_mx (x_pr x)) z ) (va_cwS 2 hts gX4_observe_X4_quality rfl rfl rfl (by decide +kernel) ⟨(Nat.le_of_ble_eq_true rfl), (Nat.le_of_ble_eq_true rfl)⟩) hE hP hD [] rfl rfl rfl hl.1 rfl (Nat.le_of_ble_eq_true rfl) dX4_observe_19 ⟨(Nat.le_of_ble_eq_true rfl), (Nat.le_of_ble_eq_true rfl)⟩) hP hD hS hA (is := []) rfl rfl (fun H locs hP hD hS => ?_)
  rw [putW_nil] at hP hD
  have hP : va_P D vwCl (mxW cI cL cM a (xs_pr x (k_ln z (k_mx (x_pr x)) (x_pr x)))) H := hP
  have hD : va_D A (mxW cI cL cM a (xs_pr x (k_ln z (k_mx (x_pr x)) (x_pr x)))) := hD
  exact W.iret (v := qual (k_mx (x_pr x)) z) hx hb hr (fun t ht hW => ⟨⟨(qual (k_mx (x_pr x)) z), (), rfl, by rfl, by rw [ht]; exact hP, hD⟩, hS.F ht⟩) hS.2.2 dX4_observe_22
