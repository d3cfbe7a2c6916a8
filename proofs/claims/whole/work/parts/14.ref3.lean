/-! ===== the reference's calls ===== -/
def RT (u : RS) : Prop := ¬ r_n u = 0 → ¬ sumTL (r_w u) (r_n u) = 0
theorem RT_th {u : RS} (x : Int32) (h : RT u) : RT (rs_th u x) := h
theorem RSf_th {u : RS} (x : Int32) (h : RSf u) : RSf (rs_th u x) := RSf_sh (sh_th u x) h
/-- which models, places there are -/
theorem isI0 {q : Int32} {n : Nat} (hn : n < 1073741824) (h : ¬ isI q 0 (nI n - 1) = 0) : ∃ j : Nat, j < n ∧ q = nI j := by
  have e : (nI n - 1 : Int32).toInt = (n : Int) - 1 := pk_sub_toInt (b := 1) hn (by omega)
  unfold isI at h
  split at h
  · exact absurd rfl h
  · rename_i h1
    split at h
    · exact absurd rfl h
    · rename_i h2
      rw [Int32.lt_iff_toInt_lt, tI0] at h1
      rw [Int32.lt_iff_toInt_lt, e] at h2
      refine ⟨q.toInt.toNat, by omega, Int32.toInt_inj.mp ?_⟩
      rw [nI_toInt (by omega)]
      omega
theorem isI1 {q : Int32} {n : Nat} (hn : n < 1073741824) (h : ¬ isI q 0 (nI n) = 0) : ∃ j : Nat, j ≤ n ∧ q = nI j := by
  have e : (nI n).toInt = (n : Int) := nI_toInt (by omega)
  unfold isI at h
  split at h
  · exact absurd rfl h
  · rename_i h1
    split at h
    · exact absurd rfl h
    · rename_i h2
      rw [Int32.lt_iff_toInt_lt, tI0] at h1
      rw [Int32.lt_iff_toInt_lt, e] at h2
      refine ⟨q.toInt.toNat, by omega, Int32.toInt_inj.mp ?_⟩
      rw [nI_toInt (by omega)]
      omega
theorem clN {q : Int32} {j n : Nat} (h : q = nI j) (hj : j < n) (hn : n < 2147483648) : q.toNatClampNeg = j := by rw [h]; exact nI_clamp (Nat.lt_trans hj hn)

set_option maxHeartbeats 4000000 in
set_option maxRecDepth 100000 in
theorem c_X5_modelCount (l : Launch) (D : va_G) (cI cL cM : ClassId) (A : Nat → Prop) (b : Nat → Nat) (u : RS)  : mI l yX5_modelCount wsX5_modelCount ({ frames := 0, cells := 0, slots := 0, locals := 0 }) D (tB cI cL cM) A [.ref (b 0)] (rfW cI b u) (nI (r_n u)) (rfW cI b (rs_th u 0)) := by
  refine Met.ofW (cc := cX5_modelCount) (maxL := 1) (ret := (some .int)) (by decide) rfl ?_
  intro p e s m args below meth c s₁ B hml hv
  obtain ⟨rfl, hP, hE, hD, hA⟩ := hv
  have hK := hE.1
  have hx := B.exec
  have hb := B.bytes
  have hr := B.returns
  have hts := atoms_spec (ws := wsX5_modelCount) B.pre
  have hown : s.vm.findClass RX5 = some m.cls := findClass_of_methodNamed B.named
  have hlocks := B.notSynchronized
  have hS : va_S A s.heap s.heap [] := va_S.rf
  have hl := lv_entry ([.ref (b 0)]) (n := 1) (Nat.le_of_ble_eq_true rfl)
  rw [lg_entry_eq]
  generalize (lg_sl ([.ref (b 0)]) ++ List.replicate (1 - (lg_sl ([.ref (b 0)])).length) Slot.unset).toArray = ls at hl ⊢
  have hl : lv_has ls 1 [(0, .ref (b 0))] := hl
  refine lv_aload_n hx hb dX5_modelCount_0 rfl (lv_at hl 0 rfl) ?_
  refine lv_iconst (v := 0) hx hb dX5_modelCount_1 (by decide) ?_
  refine va_put (D := D) (ci := 5) (v := .int 0) (ty := .int) (C := RX5) (T := TX5) (N := 22) hx hb hts (fun _ h => List.mem_cons_of_mem _ (List.mem_append_right _ h)) tyX5 tyX5_ok nmX5 hown hK hP hD hS 0 rfl rfl 0 (by decide) (hts _ (List.mem_of_getElem? (i := 1) rfl)) (fun _ h9 => h9) rfl (by decide +kernel) rfl rfl (Nat.le_of_ble_eq_true rfl) dX5_modelCount_2 (fun H locs hP hD hS => ?_)
  rw [rfW_th] at hP hD
  have hP : va_P D vwCl (rfW cI b (rs_th u 0)) H := hP
  have hD : va_D A (rfW cI b (rs_th u 0)) := hD
  refine lv_aload_n hx hb dX5_modelCount_5 rfl (lv_at hl 0 rfl) ?_
  refine va_get (D := D) (ci := 5) (v := .int (nI (r_n u))) (C := RX5) (T := TX5) (N := 22) hx hb hts (fun _ h => List.mem_cons_of_mem _ (List.mem_append_right _ h)) hown hK hP 0 rfl rfl 1 (by decide) (hts _ (List.mem_of_getElem? (i := 2) rfl)) (fun _ h9 => h9) rfl dX5_modelCount_6 ?_
  exact W.iret (v := nI (r_n u)) hx hb hr (fun t ht hW => ⟨⟨(nI (r_n u)), (), rfl, by rfl, by rw [ht]; exact hP, hD⟩, hS.F ht⟩) hS.2.2 dX5_modelCount_9

set_option maxHeartbeats 4000000 in
set_option maxRecDepth 100000 in
theorem c_X5_size (l : Launch) (D : va_G) (cI cL cM : ClassId) (A : Nat → Prop) (b : Nat → Nat) (u : RS)  : mI l yX5_size wsX5_size ({ frames := 0, cells := 0, slots := 0, locals := 0 }) D (tB cI cL cM) A [.ref (b 0)] (rfW cI b u) (nI (r_sz u)) (rfW cI b (rs_th u 0)) := by
  refine Met.ofW (cc := cX5_size) (maxL := 1) (ret := (some .int)) (by decide) rfl ?_
  intro p e s m args below meth c s₁ B hml hv
  obtain ⟨rfl, hP, hE, hD, hA⟩ := hv
  have hK := hE.1
  have hx := B.exec
  have hb := B.bytes
  have hr := B.returns
  have hts := atoms_spec (ws := wsX5_size) B.pre
  have hown : s.vm.findClass RX5 = some m.cls := findClass_of_methodNamed B.named
  have hlocks := B.notSynchronized
  have hS : va_S A s.heap s.heap [] := va_S.rf
  have hl := lv_entry ([.ref (b 0)]) (n := 1) (Nat.le_of_ble_eq_true rfl)
  rw [lg_entry_eq]
  generalize (lg_sl ([.ref (b 0)]) ++ List.replicate (1 - (lg_sl ([.ref (b 0)])).length) Slot.unset).toArray = ls at hl ⊢
  have hl : lv_has ls 1 [(0, .ref (b 0))] := hl
  refine lv_aload_n hx hb dX5_size_0 rfl (lv_at hl 0 rfl) ?_
  refine lv_iconst (v := 0) hx hb dX5_size_1 (by decide) ?_
  refine va_put (D := D) (ci := 5) (v := .int 0) (ty := .int) (C := RX5) (T := TX5) (N := 22) hx hb hts (fun _ h => List.mem_cons_of_mem _ (List.mem_append_right _ h)) tyX5 tyX5_ok nmX5 hown hK hP hD hS 0 rfl rfl 0 (by decide) (hts _ (List.mem_of_getElem? (i := 1) rfl)) (fun _ h9 => h9) rfl (by decide +kernel) rfl rfl (Nat.le_of_ble_eq_true rfl) dX5_size_2 (fun H locs hP hD hS => ?_)
  rw [rfW_th] at hP hD
  have hP : va_P D vwCl (rfW cI b (rs_th u 0)) H := hP
  have hD : va_D A (rfW cI b (rs_th u 0)) := hD
  refine lv_aload_n hx hb dX5_size_5 rfl (lv_at hl 0 rfl) ?_
  refine va_get (D := D) (ci := 5) (v := .int (nI (r_sz u))) (C := RX5) (T := TX5) (N := 22) hx hb hts (fun _ h => List.mem_cons_of_mem _ (List.mem_append_right _ h)) hown hK hP 0 rfl rfl 5 (by decide) (hts _ (List.mem_of_getElem? (i := 2) rfl)) (fun _ h9 => h9) rfl dX5_size_6 ?_
  exact W.iret (v := nI (r_sz u)) hx hb hr (fun t ht hW => ⟨⟨(nI (r_sz u)), (), rfl, by rfl, by rw [ht]; exact hP, hD⟩, hS.F ht⟩) hS.2.2 dX5_size_9

set_option maxHeartbeats 4000000 in
set_option maxRecDepth 100000 in
theorem c_X5_codeSize (l : Launch) (D : va_G) (cI cL cM : ClassId) (A : Nat → Prop) (b : Nat → Nat) (u : RS)  : mI l yX5_codeSize wsX5_codeSize ({ frames := 0, cells := 0, slots := 0, locals := 0 }) D (tB cI cL cM) A [.ref (b 0)] (rfW cI b u) (nI (r_cs u)) (rfW cI b (rs_th u 0)) := by
  refine Met.ofW (cc := cX5_codeSize) (maxL := 1) (ret := (some .int)) (by decide) rfl ?_
  intro p e s m args below meth c s₁ B hml hv
  obtain ⟨rfl, hP, hE, hD, hA⟩ := hv
  have hK := hE.1
  have hx := B.exec
  have hb := B.bytes
  have hr := B.returns
  have hts := atoms_spec (ws := wsX5_codeSize) B.pre
  have hown : s.vm.findClass RX5 = some m.cls := findClass_of_methodNamed B.named
  have hlocks := B.notSynchronized
  have hS : va_S A s.heap s.heap [] := va_S.rf
  have hl := lv_entry ([.ref (b 0)]) (n := 1) (Nat.le_of_ble_eq_true rfl)
  rw [lg_entry_eq]
  generalize (lg_sl ([.ref (b 0)]) ++ List.replicate (1 - (lg_sl ([.ref (b 0)])).length) Slot.unset).toArray = ls at hl ⊢
  have hl : lv_has ls 1 [(0, .ref (b 0))] := hl
  refine lv_aload_n hx hb dX5_codeSize_0 rfl (lv_at hl 0 rfl) ?_
  refine lv_iconst (v := 0) hx hb dX5_codeSize_1 (by decide) ?_
  refine va_put (D := D) (ci := 5) (v := .int 0) (ty := .int) (C := RX5) (T := TX5) (N := 22) hx hb hts (fun _ h => List.mem_cons_of_mem _ (List.mem_append_right _ h)) tyX5 tyX5_ok nmX5 hown hK hP hD hS 0 rfl rfl 0 (by decide) (hts _ (List.mem_of_getElem? (i := 1) rfl)) (fun _ h9 => h9) rfl (by decide +kernel) rfl rfl (Nat.le_of_ble_eq_true rfl) dX5_codeSize_2 (fun H locs hP hD hS => ?_)
  rw [rfW_th] at hP hD
  have hP : va_P D vwCl (rfW cI b (rs_th u 0)) H := hP
  have hD : va_D A (rfW cI b (rs_th u 0)) := hD
  refine lv_aload_n hx hb dX5_codeSize_5 rfl (lv_at hl 0 rfl) ?_
  refine va_get (D := D) (ci := 5) (v := .int (nI (r_cs u))) (C := RX5) (T := TX5) (N := 22) hx hb hts (fun _ h => List.mem_cons_of_mem _ (List.mem_append_right _ h)) hown hK hP 0 rfl rfl 16 (by decide) (hts _ (List.mem_of_getElem? (i := 2) rfl)) (fun _ h9 => h9) rfl dX5_codeSize_6 ?_
  exact W.iret (v := nI (r_cs u)) hx hb hr (fun t ht hW => ⟨⟨(nI (r_cs u)), (), rfl, by rfl, by rw [ht]; exact hP, hD⟩, hS.F ht⟩) hS.2.2 dX5_codeSize_9

set_option maxHeartbeats 4000000 in
set_option maxRecDepth 100000 in
theorem c_X5_outputSize (l : Launch) (D : va_G) (cI cL cM : ClassId) (A : Nat → Prop) (b : Nat → Nat) (u : RS)  : mI l yX5_outputSize wsX5_outputSize ({ frames := 0, cells := 0, slots := 0, locals := 0 }) D (tB cI cL cM) A [.ref (b 0)] (rfW cI b u) (nI (r_mk u)) (rfW cI b (rs_th u 0)) := by
  refine Met.ofW (cc := cX5_outputSize) (maxL := 1) (ret := (some .int)) (by decide) rfl ?_
  intro p e s m args below meth c s₁ B hml hv
  obtain ⟨rfl, hP, hE, hD, hA⟩ := hv
  have hK := hE.1
  have hx := B.exec
  have hb := B.bytes
  have hr := B.returns
  have hts := atoms_spec (ws := wsX5_outputSize) B.pre
  have hown : s.vm.findClass RX5 = some m.cls := findClass_of_methodNamed B.named
  have hlocks := B.notSynchronized
  have hS : va_S A s.heap s.heap [] := va_S.rf
  have hl := lv_entry ([.ref (b 0)]) (n := 1) (Nat.le_of_ble_eq_true rfl)
  rw [lg_entry_eq]
  generalize (lg_sl ([.ref (b 0)]) ++ List.replicate (1 - (lg_sl ([.ref (b 0)])).length) Slot.unset).toArray = ls at hl ⊢
  have hl : lv_has ls 1 [(0, .ref (b 0))] := hl
  refine lv_aload_n hx hb dX5_outputSize_0 rfl (lv_at hl 0 rfl) ?_
  refine lv_iconst (v := 0) hx hb dX5_outputSize_1 (by decide) ?_
  refine va_put (D := D) (ci := 5) (v := .int 0) (ty := .int) (C := RX5) (T := TX5) (N := 22) hx hb hts (fun _ h => List.mem_cons_of_mem _ (List.mem_append_right _ h)) tyX5 tyX5_ok nmX5 hown hK hP hD hS 0 rfl rfl 0 (by decide) (hts _ (List.mem_of_getElem? (i := 1) rfl)) (fun _ h9 => h9) rfl (by decide +kernel) rfl rfl (Nat.le_of_ble_eq_true rfl) dX5_outputSize_2 (fun H locs hP hD hS => ?_)
  rw [rfW_th] at hP hD
  have hP : va_P D vwCl (rfW cI b (rs_th u 0)) H := hP
  have hD : va_D A (rfW cI b (rs_th u 0)) := hD
  refine lv_aload_n hx hb dX5_outputSize_5 rfl (lv_at hl 0 rfl) ?_
  refine va_get (D := D) (ci := 5) (v := .int (nI (r_mk u))) (C := RX5) (T := TX5) (N := 22) hx hb hts (fun _ h => List.mem_cons_of_mem _ (List.mem_append_right _ h)) hown hK hP 0 rfl rfl 18 (by decide) (hts _ (List.mem_of_getElem? (i := 2) rfl)) (fun _ h9 => h9) rfl dX5_outputSize_6 ?_
  exact W.iret (v := nI (r_mk u)) hx hb hr (fun t ht hW => ⟨⟨(nI (r_mk u)), (), rfl, by rfl, by rw [ht]; exact hP, hD⟩, hS.F ht⟩) hS.2.2 dX5_outputSize_9

set_option maxHeartbeats 4000000 in
set_option maxRecDepth 100000 in
theorem c_X5_node (l : Launch) (D : va_G) (cI cL cM : ClassId) (A : Nat → Prop) (b : Nat → Nat) (u : RS)  : mI l yX5_node wsX5_node ({ frames := 0, cells := 0, slots := 0, locals := 0 }) D (tB cI cL cM) A [.ref (b 0)] (rfW cI b u) (nI (r_nd u)) (rfW cI b (rs_th u 0)) := by
  refine Met.ofW (cc := cX5_node) (maxL := 1) (ret := (some .int)) (by decide) rfl ?_
  intro p e s m args below meth c s₁ B hml hv
  obtain ⟨rfl, hP, hE, hD, hA⟩ := hv
  have hK := hE.1
  have hx := B.exec
  have hb := B.bytes
  have hr := B.returns
  have hts := atoms_spec (ws := wsX5_node) B.pre
  have hown : s.vm.findClass RX5 = some m.cls := findClass_of_methodNamed B.named
  have hlocks := B.notSynchronized
  have hS : va_S A s.heap s.heap [] := va_S.rf
  have hl := lv_entry ([.ref (b 0)]) (n := 1) (Nat.le_of_ble_eq_true rfl)
  rw [lg_entry_eq]
  generalize (lg_sl ([.ref (b 0)]) ++ List.replicate (1 - (lg_sl ([.ref (b 0)])).length) Slot.unset).toArray = ls at hl ⊢
  have hl : lv_has ls 1 [(0, .ref (b 0))] := hl
  refine lv_aload_n hx hb dX5_node_0 rfl (lv_at hl 0 rfl) ?_
  refine lv_iconst (v := 0) hx hb dX5_node_1 (by decide) ?_
  refine va_put (D := D) (ci := 5) (v := .int 0) (ty := .int) (C := RX5) (T := TX5) (N := 22) hx hb hts (fun _ h => List.mem_cons_of_mem _ (List.mem_append_right _ h)) tyX5 tyX5_ok nmX5 hown hK hP hD hS 0 rfl rfl 0 (by decide) (hts _ (List.mem_of_getElem? (i := 1) rfl)) (fun _ h9 => h9) rfl (by decide +kernel) rfl rfl (Nat.le_of_ble_eq_true rfl) dX5_node_2 (fun H locs hP hD hS => ?_)
  rw [rfW_th] at hP hD
  have hP : va_P D vwCl (rfW cI b (rs_th u 0)) H := hP
  have hD : va_D A (rfW cI b (rs_th u 0)) := hD
  refine lv_aload_n hx hb dX5_node_5 rfl (lv_at hl 0 rfl) ?_
  refine va_get (D := D) (ci := 5) (v := .int (nI (r_nd u))) (C := RX5) (T := TX5) (N := 22) hx hb hts (fun _ h => List.mem_cons_of_mem _ (List.mem_append_right _ h)) hown hK hP 0 rfl rfl 13 (by decide) (hts _ (List.mem_of_getElem? (i := 2) rfl)) (fun _ h9 => h9) rfl dX5_node_6 ?_
  exact W.iret (v := nI (r_nd u)) hx hb hr (fun t ht hW => ⟨⟨(nI (r_nd u)), (), rfl, by rfl, by rw [ht]; exact hP, hD⟩, hS.F ht⟩) hS.2.2 dX5_node_9

set_option maxHeartbeats 4000000 in
set_option maxRecDepth 100000 in
theorem c_X5_observed (l : Launch) (D : va_G) (cI cL cM : ClassId) (A : Nat → Prop) (b : Nat → Nat) (u : RS)  : mI l yX5_observed wsX5_observed ({ frames := 0, cells := 0, slots := 0, locals := 0 }) D (tB cI cL cM) A [.ref (b 0)] (rfW cI b u) (r_ob u) (rfW cI b (rs_th u 0)) := by
  refine Met.ofW (cc := cX5_observed) (maxL := 1) (ret := (some .int)) (by decide) rfl ?_
  intro p e s m args below meth c s₁ B hml hv
  obtain ⟨rfl, hP, hE, hD, hA⟩ := hv
  have hK := hE.1
  have hx := B.exec
  have hb := B.bytes
  have hr := B.returns
  have hts := atoms_spec (ws := wsX5_observed) B.pre
  have hown : s.vm.findClass RX5 = some m.cls := findClass_of_methodNamed B.named
  have hlocks := B.notSynchronized
  have hS : va_S A s.heap s.heap [] := va_S.rf
  have hl := lv_entry ([.ref (b 0)]) (n := 1) (Nat.le_of_ble_eq_true rfl)
  rw [lg_entry_eq]
  generalize (lg_sl ([.ref (b 0)]) ++ List.replicate (1 - (lg_sl ([.ref (b 0)])).length) Slot.unset).toArray = ls at hl ⊢
  have hl : lv_has ls 1 [(0, .ref (b 0))] := hl
  refine lv_aload_n hx hb dX5_observed_0 rfl (lv_at hl 0 rfl) ?_
  refine lv_iconst (v := 0) hx hb dX5_observed_1 (by decide) ?_
  refine va_put (D := D) (ci := 5) (v := .int 0) (ty := .int) (C := RX5) (T := TX5) (N := 22) hx hb hts (fun _ h => List.mem_cons_of_mem _ (List.mem_append_right _ h)) tyX5 tyX5_ok nmX5 hown hK hP hD hS 0 rfl rfl 0 (by decide) (hts _ (List.mem_of_getElem? (i := 1) rfl)) (fun _ h9 => h9) rfl (by decide +kernel) rfl rfl (Nat.le_of_ble_eq_true rfl) dX5_observed_2 (fun H locs hP hD hS => ?_)
  rw [rfW_th] at hP hD
  have hP : va_P D vwCl (rfW cI b (rs_th u 0)) H := hP
  have hD : va_D A (rfW cI b (rs_th u 0)) := hD
  refine lv_aload_n hx hb dX5_observed_5 rfl (lv_at hl 0 rfl) ?_
  refine va_get (D := D) (ci := 5) (v := .int (r_ob u)) (C := RX5) (T := TX5) (N := 22) hx hb hts (fun _ h => List.mem_cons_of_mem _ (List.mem_append_right _ h)) hown hK hP 0 rfl rfl 14 (by decide) (hts _ (List.mem_of_getElem? (i := 2) rfl)) (fun _ h9 => h9) rfl dX5_observed_6 ?_
  exact W.iret (v := (r_ob u)) hx hb hr (fun t ht hW => ⟨⟨(r_ob u), (), rfl, by rfl, by rw [ht]; exact hP, hD⟩, hS.F ht⟩) hS.2.2 dX5_observed_9

set_option maxHeartbeats 4000000 in
set_option maxRecDepth 100000 in
theorem c_X5_error (l : Launch) (D : va_G) (cI cL cM : ClassId) (A : Nat → Prop) (b : Nat → Nat) (u : RS)  : mL l yX5_error wsX5_error ({ frames := 0, cells := 0, slots := 0, locals := 0 }) D (tB cI cL cM) A [.ref (b 0)] (rfW cI b u) (r_er u) (rfW cI b (rs_th u 0)) := by
  refine Met.ofW (cc := cX5_error) (maxL := 1) (ret := (some .long)) (by decide) rfl ?_
  intro p e s m args below meth c s₁ B hml hv
  obtain ⟨rfl, hP, hE, hD, hA⟩ := hv
  have hK := hE.1
  have hx := B.exec
  have hb := B.bytes
  have hr := B.returns
  have hts := atoms_spec (ws := wsX5_error) B.pre
  have hown : s.vm.findClass RX5 = some m.cls := findClass_of_methodNamed B.named
  have hlocks := B.notSynchronized
  have hS : va_S A s.heap s.heap [] := va_S.rf
  have hl := lv_entry ([.ref (b 0)]) (n := 1) (Nat.le_of_ble_eq_true rfl)
  rw [lg_entry_eq]
  generalize (lg_sl ([.ref (b 0)]) ++ List.replicate (1 - (lg_sl ([.ref (b 0)])).length) Slot.unset).toArray = ls at hl ⊢
  have hl : lv_has ls 1 [(0, .ref (b 0))] := hl
  refine lv_aload_n hx hb dX5_error_0 rfl (lv_at hl 0 rfl) ?_
  refine lv_iconst (v := 0) hx hb dX5_error_1 (by decide) ?_
  refine va_put (D := D) (ci := 5) (v := .int 0) (ty := .int) (C := RX5) (T := TX5) (N := 22) hx hb hts (fun _ h => List.mem_cons_of_mem _ (List.mem_append_right _ h)) tyX5 tyX5_ok nmX5 hown hK hP hD hS 0 rfl rfl 0 (by decide) (hts _ (List.mem_of_getElem? (i := 1) rfl)) (fun _ h9 => h9) rfl (by decide +kernel) rfl rfl (Nat.le_of_ble_eq_true rfl) dX5_error_2 (fun H locs hP hD hS => ?_)
  rw [rfW_th] at hP hD
  have hP : va_P D vwCl (rfW cI b (rs_th u 0)) H := hP
  have hD : va_D A (rfW cI b (rs_th u 0)) := hD
  refine lv_aload_n hx hb dX5_error_5 rfl (lv_at hl 0 rfl) ?_
  refine va_get (D := D) (ci := 5) (v := .long (r_er u)) (C := RX5) (T := TX5) (N := 22) hx hb hts (fun _ h => List.mem_cons_of_mem _ (List.mem_append_right _ h)) hown hK hP 0 rfl rfl 15 (by decide) (hts _ (List.mem_of_getElem? (i := 2) rfl)) (fun _ h9 => h9) rfl dX5_error_6 ?_
  exact W.lret (v := (r_er u)) hx hb hr (fun t ht hW => ⟨⟨(r_er u), (), rfl, by rfl, by rw [ht]; exact hP, hD⟩, hS.F ht⟩) hS.2.2 dX5_error_9

set_option maxHeartbeats 4000000 in
set_option maxRecDepth 100000 in
theorem c_X5_mixed (l : Launch) (D : va_G) (cI cL cM : ClassId) (A : Nat → Prop) (b : Nat → Nat) (u : RS) (hs : RSf u) (hT : RT u) : mI l yX5_mixed wsX5_mixed ({ frames := 4, cells := 0, slots := 0, locals := 91 }) D (tB cI cL cM) A [.ref (b 0)] (rfW cI b u) (r_mx (rs_th u 0)) (rfW cI b (rs_th u 0)) := by
  refine Met.ofW (cc := cX5_mixed) (maxL := 1) (ret := (some .int)) (by decide) rfl ?_
  intro p e s m args below meth c s₁ B hml hv
  obtain ⟨rfl, hP, hE, hD, hA⟩ := hv
  have hK := hE.1
  have hx := B.exec
  have hb := B.bytes
  have hr := B.returns
  have hts := atoms_spec (ws := wsX5_mixed) B.pre
  have hown : s.vm.findClass RX5 = some m.cls := findClass_of_methodNamed B.named
  have hlocks := B.notSynchronized
  have hS : va_S A s.heap s.heap [] := va_S.rf
  have hl := lv_entry ([.ref (b 0)]) (n := 1) (Nat.le_of_ble_eq_true rfl)
  rw [lg_entry_eq]
  generalize (lg_sl ([.ref (b 0)]) ++ List.replicate (1 - (lg_sl ([.ref (b 0)])).length) Slot.unset).toArray = ls at hl ⊢
  have hl : lv_has ls 1 [(0, .ref (b 0))] := hl
  refine lv_aload_n hx hb dX5_mixed_0 rfl (lv_at hl 0 rfl) ?_
  refine lv_iconst (v := 0) hx hb dX5_mixed_1 (by decide) ?_
  refine va_put (D := D) (ci := 5) (v := .int 0) (ty := .int) (C := RX5) (T := TX5) (N := 22) hx hb hts (fun _ h => List.mem_cons_of_mem _ (List.mem_append_right _ h)) tyX5 tyX5_ok nmX5 hown hK hP hD hS 0 rfl rfl 0 (by decide) (hts _ (List.mem_of_getElem? (i := 1) rfl)) (fun _ h9 => h9) rfl (by decide +kernel) rfl rfl (Nat.le_of_ble_eq_true rfl) dX5_mixed_2 (fun H locs hP hD hS => ?_)
  rw [rfW_th] at hP hD
  have hP : va_P D vwCl (rfW cI b (rs_th u 0)) H := hP
  have hD : va_D A (rfW cI b (rs_th u 0)) := hD
  refine lv_aload_n hx hb dX5_mixed_5 rfl (lv_at hl 0 rfl) ?_
  refine kIa (rVa (As := []) (rest := []) ⟨hx, hb, hml, hown, hts⟩ (c_X5_mix l D cI cL cM _ b (rs_th u 0)  (RSf_th 0 hs) (RT_th 0 hT)) (cwV 0 hts gX5_mixed_X5_mix rfl rfl rfl (by decide +kernel) ⟨(Nat.le_of_ble_eq_true rfl), (Nat.le_of_ble_eq_true rfl)⟩) hE hP hD hS hA 0 rfl rfl rfl hl.1 rfl (Nat.le_of_ble_eq_true rfl) dX5_mixed_6 ⟨(Nat.le_of_ble_eq_true rfl), (Nat.le_of_ble_eq_true rfl)⟩) hS (fun H locs hP hD hS => ?_)
  have hP : va_P D vwCl (rfW cI b (rs_th u 0)) H := hP
  have hD : va_D A (rfW cI b (rs_th u 0)) := hD
  exact W.iret (v := (r_mx (rs_th u 0))) hx hb hr (fun t ht hW => ⟨⟨(r_mx (rs_th u 0)), (), rfl, by rfl, by rw [ht]; exact hP, hD⟩, hS.F ht⟩) hS.2.2 dX5_mixed_9

set_option maxHeartbeats 4000000 in
set_option maxRecDepth 100000 in
theorem c_X5_observe (l : Launch) (D : va_G) (cI cL cM : ClassId) (A : Nat → Prop) (b : Nat → Nat) (u : RS) (z : Int32) (hs : RSf u) (hT : RT u) : mI l yX5_observe wsX5_observe ({ frames := 5, cells := 0, slots := 0, locals := 117 }) D (tB cI cL cM) A [.ref (b 0), .int z] (rfW cI b u) (qual (r_mx (rs_th u 0)) z) (rfW cI b (r_lrn z (rs_th u 0))) := by
  refine Met.ofW (cc := cX5_observe) (maxL := 2) (ret := (some .int)) (by decide) rfl ?_
  intro p e s m args below meth c s₁ B hml hv
  obtain ⟨rfl, hP, hE, hD, hA⟩ := hv
  have hK := hE.1
  have hx := B.exec
  have hb := B.bytes
  have hr := B.returns
  have hts := atoms_spec (ws := wsX5_observe) B.pre
  have hown : s.vm.findClass RX5 = some m.cls := findClass_of_methodNamed B.named
  have hlocks := B.notSynchronized
  have hS : va_S A s.heap s.heap [] := va_S.rf
  have hl := lv_entry ([.ref (b 0), .int z]) (n := 2) (Nat.le_of_ble_eq_true rfl)
  rw [lg_entry_eq]
  generalize (lg_sl ([.ref (b 0), .int z]) ++ List.replicate (2 - (lg_sl ([.ref (b 0), .int z])).length) Slot.unset).toArray = ls at hl ⊢
  have hl : lv_has ls 2 [(0, .ref (b 0)), (1, .int z)] := hl
  refine lv_aload_n hx hb dX5_observe_0 rfl (lv_at hl 0 rfl) ?_
  refine lv_iconst (v := 0) hx hb dX5_observe_1 (by decide) ?_
  refine va_put (D := D) (ci := 5) (v := .int 0) (ty := .int) (C := RX5) (T := TX5) (N := 22) hx hb hts (fun _ h => List.mem_cons_of_mem _ (List.mem_append_right _ h)) tyX5 tyX5_ok nmX5 hown hK hP hD hS 0 rfl rfl 0 (by decide) (hts _ (List.mem_of_getElem? (i := 1) rfl)) (fun _ h9 => h9) rfl (by decide +kernel) rfl rfl (Nat.le_of_ble_eq_true rfl) dX5_observe_2 (fun H locs hP hD hS => ?_)
  rw [rfW_th] at hP hD
  have hP : va_P D vwCl (rfW cI b (rs_th u 0)) H := hP
  have hD : va_D A (rfW cI b (rs_th u 0)) := hD
  refine lv_aload_n hx hb dX5_observe_5 rfl (lv_at hl 0 rfl) ?_
  refine lv_iload_n hx hb dX5_observe_6 rfl (lv_at hl 1 rfl) ?_
  refine kIa (rVa (As := [.int z]) (rest := []) ⟨hx, hb, hml, hown, hts⟩ (c_X5_learn l D cI cL cM _ b (rs_th u 0) z (RSf_th 0 hs) (RT_th 0 hT)) (cwV 1 hts gX5_observe_X5_learn rfl rfl rfl (by decide +kernel) ⟨(Nat.le_of_ble_eq_true rfl), (Nat.le_of_ble_eq_true rfl)⟩) hE hP hD hS hA 0 rfl rfl rfl hl.1 rfl (Nat.le_of_ble_eq_true rfl) dX5_observe_7 ⟨(Nat.le_of_ble_eq_true rfl), (Nat.le_of_ble_eq_true rfl)⟩) hS (fun H locs hP hD hS => ?_)
  have hP : va_P D vwCl (rfW cI b (r_lrn z (rs_th u 0))) H := hP
  have hD : va_D A (rfW cI b (r_lrn z (rs_th u 0))) := hD
  exact W.iret (v := (qual (r_mx (rs_th u 0)) z)) hx hb hr (fun t ht hW => ⟨⟨(qual (r_mx (rs_th u 0)) z), (), rfl, by rfl, by rw [ht]; exact hP, hD⟩, hS.F ht⟩) hS.2.2 dX5_observe_10

set_option maxHeartbeats 4000000 in
set_option maxRecDepth 100000 in
theorem c_X5_reset (l : Launch) (D : va_G) (cI cL cM : ClassId) (A : Nat → Prop) (b : Nat → Nat) (u : RS)  : mI l yX5_reset wsX5_reset ({ frames := 1, cells := 0, slots := 0, locals := 21 }) D (tB cI cL cM) A [.ref (b 0)] (rfW cI b u) (r_ob u) (rfW cI b (r_clr (rs_th u 0))) := by
  refine Met.ofW (cc := cX5_reset) (maxL := 2) (ret := (some .int)) (by decide) rfl ?_
  intro p e s m args below meth c s₁ B hml hv
  obtain ⟨rfl, hP, hE, hD, hA⟩ := hv
  have hK := hE.1
  have hx := B.exec
  have hb := B.bytes
  have hr := B.returns
  have hts := atoms_spec (ws := wsX5_reset) B.pre
  have hown : s.vm.findClass RX5 = some m.cls := findClass_of_methodNamed B.named
  have hlocks := B.notSynchronized
  have hS : va_S A s.heap s.heap [] := va_S.rf
  have hl := lv_entry ([.ref (b 0)]) (n := 2) (Nat.le_of_ble_eq_true rfl)
  rw [lg_entry_eq]
  generalize (lg_sl ([.ref (b 0)]) ++ List.replicate (2 - (lg_sl ([.ref (b 0)])).length) Slot.unset).toArray = ls at hl ⊢
  have hl : lv_has ls 2 [(0, .ref (b 0))] := hl
  refine lv_aload_n hx hb dX5_reset_0 rfl (lv_at hl 0 rfl) ?_
  refine lv_iconst (v := 0) hx hb dX5_reset_1 (by decide) ?_
  refine va_put (D := D) (ci := 5) (v := .int 0) (ty := .int) (C := RX5) (T := TX5) (N := 22) hx hb hts (fun _ h => List.mem_cons_of_mem _ (List.mem_append_right _ h)) tyX5 tyX5_ok nmX5 hown hK hP hD hS 0 rfl rfl 0 (by decide) (hts _ (List.mem_of_getElem? (i := 1) rfl)) (fun _ h9 => h9) rfl (by decide +kernel) rfl rfl (Nat.le_of_ble_eq_true rfl) dX5_reset_2 (fun H locs hP hD hS => ?_)
  rw [rfW_th] at hP hD
  have hP : va_P D vwCl (rfW cI b (rs_th u 0)) H := hP
  have hD : va_D A (rfW cI b (rs_th u 0)) := hD
  refine lv_aload_n hx hb dX5_reset_5 rfl (lv_at hl 0 rfl) ?_
  refine va_get (D := D) (ci := 5) (v := .int (r_ob u)) (C := RX5) (T := TX5) (N := 22) hx hb hts (fun _ h => List.mem_cons_of_mem _ (List.mem_append_right _ h)) hown hK hP 0 rfl rfl 14 (by decide) (hts _ (List.mem_of_getElem? (i := 2) rfl)) (fun _ h9 => h9) rfl dX5_reset_6 ?_
  refine lv_istore_n (lv' := [(1, .int (r_ob u)), (0, .ref (b 0))]) hx hb dX5_reset_9 rfl hl (by decide) rfl (fun ls hl => ?_)
  refine lv_aload_n hx hb dX5_reset_10 rfl (lv_at hl 1 rfl) ?_
  refine kVa (rVa (As := []) (rest := []) ⟨hx, hb, hml, hown, hts⟩ (c_X5_clear l D cI cL cM _ b (rs_th u 0)  ) (cwV 0 hts gX5_reset_X5_clear rfl rfl rfl (by decide +kernel) ⟨(Nat.le_of_ble_eq_true rfl), (Nat.le_of_ble_eq_true rfl)⟩) hE hP hD hS hA 0 rfl rfl rfl hl.1 rfl (Nat.le_of_ble_eq_true rfl) dX5_reset_11 ⟨(Nat.le_of_ble_eq_true rfl), (Nat.le_of_ble_eq_true rfl)⟩) hS (fun H locs hP hD hS => ?_)
  have hP : va_P D vwCl (rfW cI b (r_clr (rs_th u 0))) H := hP
  have hD : va_D A (rfW cI b (r_clr (rs_th u 0))) := hD
  refine lv_iload_n hx hb dX5_reset_14 rfl (lv_at hl 0 rfl) ?_
  exact W.iret (v := (r_ob u)) hx hb hr (fun t ht hW => ⟨⟨(r_ob u), (), rfl, by rfl, by rw [ht]; exact hP, hD⟩, hS.F ht⟩) hS.2.2 dX5_reset_15

set_option maxHeartbeats 4000000 in
set_option maxRecDepth 100000 in
theorem c_X5_prediction (l : Launch) (D : va_G) (cI cL cM : ClassId) (A : Nat → Prop) (b : Nat → Nat) (u : RS) (q : Int32) (hs : RSf u) : mI l yX5_prediction wsX5_prediction ({ frames := 3, cells := 0, slots := 0, locals := 65 }) D (tB cI cL cM) A [.ref (b 0), .int q] (rfW cI b u) (if isI q 0 (nI (r_n u) - 1) = 0 then 0 else r_g (rs_th u 0) q.toNatClampNeg) (rfW cI b (if isI q 0 (nI (r_n u) - 1) = 0 then (rs_th (rs_th u 0) 1) else (rs_th u 0))) := by
  refine Met.ofW (cc := cX5_prediction) (maxL := 2) (ret := (some .int)) (by decide) rfl ?_
  intro p e s m args below meth c s₁ B hml hv
  obtain ⟨rfl, hP, hE, hD, hA⟩ := hv
  have hK := hE.1
  have hx := B.exec
  have hb := B.bytes
  have hr := B.returns
  have hts := atoms_spec (ws := wsX5_prediction) B.pre
  have hown : s.vm.findClass RX5 = some m.cls := findClass_of_methodNamed B.named
  have hlocks := B.notSynchronized
  have hS : va_S A s.heap s.heap [] := va_S.rf
  have hl := lv_entry ([.ref (b 0), .int q]) (n := 2) (Nat.le_of_ble_eq_true rfl)
  rw [lg_entry_eq]
  generalize (lg_sl ([.ref (b 0), .int q]) ++ List.replicate (2 - (lg_sl ([.ref (b 0), .int q])).length) Slot.unset).toArray = ls at hl ⊢
  have hl : lv_has ls 2 [(0, .ref (b 0)), (1, .int q)] := hl
  refine lv_aload_n hx hb dX5_prediction_0 rfl (lv_at hl 0 rfl) ?_
  refine lv_iconst (v := 0) hx hb dX5_prediction_1 (by decide) ?_
  refine va_put (D := D) (ci := 5) (v := .int 0) (ty := .int) (C := RX5) (T := TX5) (N := 22) hx hb hts (fun _ h => List.mem_cons_of_mem _ (List.mem_append_right _ h)) tyX5 tyX5_ok nmX5 hown hK hP hD hS 0 rfl rfl 0 (by decide) (hts _ (List.mem_of_getElem? (i := 1) rfl)) (fun _ h9 => h9) rfl (by decide +kernel) rfl rfl (Nat.le_of_ble_eq_true rfl) dX5_prediction_2 (fun H locs hP hD hS => ?_)
  rw [rfW_th] at hP hD
  have hP : va_P D vwCl (rfW cI b (rs_th u 0)) H := hP
  have hD : va_D A (rfW cI b (rs_th u 0)) := hD
  refine lv_aload_n hx hb dX5_prediction_5 rfl (lv_at hl 0 rfl) ?_
  refine lv_iload_n hx hb dX5_prediction_6 rfl (lv_at hl 1 rfl) ?_
  refine kIa (rVa (As := [.int q]) (rest := []) ⟨hx, hb, hml, hown, hts⟩ (c_X5_isModel l D cI cL cM _ b (rs_th u 0) q ) (cwV 1 hts gX5_prediction_X5_isModel rfl rfl rfl (by decide +kernel) ⟨(Nat.le_of_ble_eq_true rfl), (Nat.le_of_ble_eq_true rfl)⟩) hE hP hD hS hA 0 rfl rfl rfl hl.1 rfl (Nat.le_of_ble_eq_true rfl) dX5_prediction_7 ⟨(Nat.le_of_ble_eq_true rfl), (Nat.le_of_ble_eq_true rfl)⟩) hS (fun H locs hP hD hS => ?_)
  have hP : va_P D vwCl (rfW cI b (rs_th u 0)) H := hP
  have hD : va_D A (rfW cI b (rs_th u 0)) := hD
  refine lv_if_eq (tgt := 21) hx hb dX5_prediction_10 (by decide) (fun cm => ?_) (fun cm => ?_)
  · replace cm : (isI q 0 (nI (r_n u) - 1)) = (0 : Int32) := cm
    refine lv_aload_n hx hb dX5_prediction_21 rfl (lv_at hl 0 rfl) ?_
    refine lv_iconst (v := 1) hx hb dX5_prediction_22 (by decide) ?_
    refine kIa (rVa (As := [.int 1]) (rest := []) ⟨hx, hb, hml, hown, hts⟩ (c_X5_no l D cI cL cM _ b (rs_th u 0) 1 ) (cwV 1 hts gX5_prediction_X5_no rfl rfl rfl (by decide +kernel) ⟨(Nat.le_of_ble_eq_true rfl), (Nat.le_of_ble_eq_true rfl)⟩) hE hP hD hS hA 0 rfl rfl rfl hl.1 rfl (Nat.le_of_ble_eq_true rfl) dX5_prediction_23 ⟨(Nat.le_of_ble_eq_true rfl), (Nat.le_of_ble_eq_true rfl)⟩) hS (fun H locs hP hD hS => ?_)
    have hP : va_P D vwCl (rfW cI b (rs_th (rs_th u 0) 1)) H := hP
    have hD : va_D A (rfW cI b (rs_th (rs_th u 0) 1)) := hD
    have hw9 : (rfW cI b (rs_th (rs_th u 0) 1)) = (rfW cI b (if isI q 0 (nI (r_n u) - 1) = 0 then (rs_th (rs_th u 0) 1) else (rs_th u 0))) := by first | (rw [if_pos cm]; try rfl) | (rw [if_neg cm]; try rfl)
    rw [hw9] at hP hD
    exact W.iret (v := (0)) hx hb hr (fun t ht hW => ⟨⟨(0), (), rfl, by (first | (rw [if_pos cm]) | (rw [if_neg cm, hcl]; try rfl)), by rw [ht]; exact hP, hD⟩, hS.F ht⟩) hS.2.2 dX5_prediction_26
  · replace cm : ¬ (isI q 0 (nI (r_n u) - 1)) = (0 : Int32) := cm
    obtain ⟨hn6, hnd, hnd0, hsj⟩ := id hs
    obtain ⟨j, hjn, hq⟩ := isI0 (by omega) cm
    have hj6 : j < 6 := by omega
    obtain ⟨hod, hlo, hix⟩ := hsj j hjn
    have hcl := clN hq hj6 (Nat.le_of_ble_eq_true rfl)
    refine lv_aload_n hx hb dX5_prediction_13 rfl (lv_at hl 0 rfl) ?_
    refine lv_iload_n hx hb dX5_prediction_14 rfl (lv_at hl 1 rfl) ?_
    refine topI (y := nI j) (hq) ?_
    refine kIa (rVa (As := [.int (nI j)]) (rest := []) ⟨hx, hb, hml, hown, hts⟩ (c_X5_predictionOf l D cI cL cM _ b (rs_th u 0) j hj6 hod hlo hix) (cwV 1 hts gX5_prediction_X5_predictionOf rfl rfl rfl (by decide +kernel) ⟨(Nat.le_of_ble_eq_true rfl), (Nat.le_of_ble_eq_true rfl)⟩) hE hP hD hS hA 0 rfl rfl rfl hl.1 rfl (Nat.le_of_ble_eq_true rfl) dX5_prediction_15 ⟨(Nat.le_of_ble_eq_true rfl), (Nat.le_of_ble_eq_true rfl)⟩) hS (fun H locs hP hD hS => ?_)
    have hP : va_P D vwCl (rfW cI b (rs_th u 0)) H := hP
    have hD : va_D A (rfW cI b (rs_th u 0)) := hD
    refine lv_goto (tgt := 26) hx hb dX5_prediction_18 (by decide) ?_
    have hw9 : (rfW cI b (rs_th u 0)) = (rfW cI b (if isI q 0 (nI (r_n u) - 1) = 0 then (rs_th (rs_th u 0) 1) else (rs_th u 0))) := by first | (rw [if_pos cm]; try rfl) | (rw [if_neg cm]; try rfl)
    rw [hw9] at hP hD
    exact W.iret (v := (r_g (rs_th u 0) j)) hx hb hr (fun t ht hW => ⟨⟨(r_g (rs_th u 0) j), (), rfl, by (first | (rw [if_pos cm]) | (rw [if_neg cm, hcl]; try rfl)), by rw [ht]; exact hP, hD⟩, hS.F ht⟩) hS.2.2 dX5_prediction_26

set_option maxHeartbeats 4000000 in
set_option maxRecDepth 100000 in
theorem c_X5_index (l : Launch) (D : va_G) (cI cL cM : ClassId) (A : Nat → Prop) (b : Nat → Nat) (u : RS) (q : Int32) (hs : RSf u) : mI l yX5_index wsX5_index ({ frames := 2, cells := 0, slots := 0, locals := 44 }) D (tB cI cL cM) A [.ref (b 0), .int q] (rfW cI b u) (if isI q 0 (nI (r_n u) - 1) = 0 then 0 else r_ix (rs_th u 0) q.toNatClampNeg) (rfW cI b (if isI q 0 (nI (r_n u) - 1) = 0 then (rs_th (rs_th u 0) 1) else (rs_th u 0))) := by
  refine Met.ofW (cc := cX5_index) (maxL := 2) (ret := (some .int)) (by decide) rfl ?_
  intro p e s m args below meth c s₁ B hml hv
  obtain ⟨rfl, hP, hE, hD, hA⟩ := hv
  have hK := hE.1
  have hx := B.exec
  have hb := B.bytes
  have hr := B.returns
  have hts := atoms_spec (ws := wsX5_index) B.pre
  have hown : s.vm.findClass RX5 = some m.cls := findClass_of_methodNamed B.named
  have hlocks := B.notSynchronized
  have hS : va_S A s.heap s.heap [] := va_S.rf
  have hl := lv_entry ([.ref (b 0), .int q]) (n := 2) (Nat.le_of_ble_eq_true rfl)
  rw [lg_entry_eq]
  generalize (lg_sl ([.ref (b 0), .int q]) ++ List.replicate (2 - (lg_sl ([.ref (b 0), .int q])).length) Slot.unset).toArray = ls at hl ⊢
  have hl : lv_has ls 2 [(0, .ref (b 0)), (1, .int q)] := hl
  refine lv_aload_n hx hb dX5_index_0 rfl (lv_at hl 0 rfl) ?_
  refine lv_iconst (v := 0) hx hb dX5_index_1 (by decide) ?_
  refine va_put (D := D) (ci := 5) (v := .int 0) (ty := .int) (C := RX5) (T := TX5) (N := 22) hx hb hts (fun _ h => List.mem_cons_of_mem _ (List.mem_append_right _ h)) tyX5 tyX5_ok nmX5 hown hK hP hD hS 0 rfl rfl 0 (by decide) (hts _ (List.mem_of_getElem? (i := 1) rfl)) (fun _ h9 => h9) rfl (by decide +kernel) rfl rfl (Nat.le_of_ble_eq_true rfl) dX5_index_2 (fun H locs hP hD hS => ?_)
  rw [rfW_th] at hP hD
  have hP : va_P D vwCl (rfW cI b (rs_th u 0)) H := hP
  have hD : va_D A (rfW cI b (rs_th u 0)) := hD
  refine lv_aload_n hx hb dX5_index_5 rfl (lv_at hl 0 rfl) ?_
  refine lv_iload_n hx hb dX5_index_6 rfl (lv_at hl 1 rfl) ?_
  refine kIa (rVa (As := [.int q]) (rest := []) ⟨hx, hb, hml, hown, hts⟩ (c_X5_isModel l D cI cL cM _ b (rs_th u 0) q ) (cwV 1 hts gX5_index_X5_isModel rfl rfl rfl (by decide +kernel) ⟨(Nat.le_of_ble_eq_true rfl), (Nat.le_of_ble_eq_true rfl)⟩) hE hP hD hS hA 0 rfl rfl rfl hl.1 rfl (Nat.le_of_ble_eq_true rfl) dX5_index_7 ⟨(Nat.le_of_ble_eq_true rfl), (Nat.le_of_ble_eq_true rfl)⟩) hS (fun H locs hP hD hS => ?_)
  have hP : va_P D vwCl (rfW cI b (rs_th u 0)) H := hP
  have hD : va_D A (rfW cI b (rs_th u 0)) := hD
  refine lv_if_eq (tgt := 21) hx hb dX5_index_10 (by decide) (fun cm => ?_) (fun cm => ?_)
  · replace cm : (isI q 0 (nI (r_n u) - 1)) = (0 : Int32) := cm
    refine lv_aload_n hx hb dX5_index_21 rfl (lv_at hl 0 rfl) ?_
    refine lv_iconst (v := 1) hx hb dX5_index_22 (by decide) ?_
    refine kIa (rVa (As := [.int 1]) (rest := []) ⟨hx, hb, hml, hown, hts⟩ (c_X5_no l D cI cL cM _ b (rs_th u 0) 1 ) (cwV 1 hts gX5_index_X5_no rfl rfl rfl (by decide +kernel) ⟨(Nat.le_of_ble_eq_true rfl), (Nat.le_of_ble_eq_true rfl)⟩) hE hP hD hS hA 0 rfl rfl rfl hl.1 rfl (Nat.le_of_ble_eq_true rfl) dX5_index_23 ⟨(Nat.le_of_ble_eq_true rfl), (Nat.le_of_ble_eq_true rfl)⟩) hS (fun H locs hP hD hS => ?_)
    have hP : va_P D vwCl (rfW cI b (rs_th (rs_th u 0) 1)) H := hP
    have hD : va_D A (rfW cI b (rs_th (rs_th u 0) 1)) := hD
    have hw9 : (rfW cI b (rs_th (rs_th u 0) 1)) = (rfW cI b (if isI q 0 (nI (r_n u) - 1) = 0 then (rs_th (rs_th u 0) 1) else (rs_th u 0))) := by first | (rw [if_pos cm]; try rfl) | (rw [if_neg cm]; try rfl)
    rw [hw9] at hP hD
    exact W.iret (v := (0)) hx hb hr (fun t ht hW => ⟨⟨(0), (), rfl, by (first | (rw [if_pos cm]) | (rw [if_neg cm, hcl]; try rfl)), by rw [ht]; exact hP, hD⟩, hS.F ht⟩) hS.2.2 dX5_index_26
  · replace cm : ¬ (isI q 0 (nI (r_n u) - 1)) = (0 : Int32) := cm
    obtain ⟨hn6, hnd, hnd0, hsj⟩ := id hs
    obtain ⟨j, hjn, hq⟩ := isI0 (by omega) cm
    have hj6 : j < 6 := by omega
    obtain ⟨hod, hlo, hix⟩ := hsj j hjn
    have hcl := clN hq hj6 (Nat.le_of_ble_eq_true rfl)
    refine lv_aload_n hx hb dX5_index_13 rfl (lv_at hl 0 rfl) ?_
    refine lv_iload_n hx hb dX5_index_14 rfl (lv_at hl 1 rfl) ?_
    refine topI (y := nI j) (hq) ?_
    refine kIa (rVa (As := [.int (nI j)]) (rest := []) ⟨hx, hb, hml, hown, hts⟩ (c_X5_indexOf l D cI cL cM _ b (rs_th u 0) j hj6 hod hlo) (cwV 1 hts gX5_index_X5_indexOf rfl rfl rfl (by decide +kernel) ⟨(Nat.le_of_ble_eq_true rfl), (Nat.le_of_ble_eq_true rfl)⟩) hE hP hD hS hA 0 rfl rfl rfl hl.1 rfl (Nat.le_of_ble_eq_true rfl) dX5_index_15 ⟨(Nat.le_of_ble_eq_true rfl), (Nat.le_of_ble_eq_true rfl)⟩) hS (fun H locs hP hD hS => ?_)
    have hP : va_P D vwCl (rfW cI b (rs_th u 0)) H := hP
    have hD : va_D A (rfW cI b (rs_th u 0)) := hD
    refine lv_goto (tgt := 26) hx hb dX5_index_18 (by decide) ?_
    have hw9 : (rfW cI b (rs_th u 0)) = (rfW cI b (if isI q 0 (nI (r_n u) - 1) = 0 then (rs_th (rs_th u 0) 1) else (rs_th u 0))) := by first | (rw [if_pos cm]; try rfl) | (rw [if_neg cm]; try rfl)
    rw [hw9] at hP hD
    exact W.iret (v := (r_ix (rs_th u 0) j)) hx hb hr (fun t ht hW => ⟨⟨(r_ix (rs_th u 0) j), (), rfl, by (first | (rw [if_pos cm]) | (rw [if_neg cm, hcl]; try rfl)), by rw [ht]; exact hP, hD⟩, hS.F ht⟩) hS.2.2 dX5_index_26

set_option maxHeartbeats 4000000 in
set_option maxRecDepth 100000 in
theorem c_X5_collisions (l : Launch) (D : va_G) (cI cL cM : ClassId) (A : Nat → Prop) (b : Nat → Nat) (u : RS) (q : Int32) (hs : RSf u) : mI l yX5_collisions wsX5_collisions ({ frames := 2, cells := 0, slots := 0, locals := 43 }) D (tB cI cL cM) A [.ref (b 0), .int q] (rfW cI b u) (if isI q 0 (nI (r_n u) - 1) = 0 then 0 else r_cl u q.toNatClampNeg) (rfW cI b (if isI q 0 (nI (r_n u) - 1) = 0 then (rs_th (rs_th u 0) 1) else (rs_th u 0))) := by
  refine Met.ofW (cc := cX5_collisions) (maxL := 2) (ret := (some .int)) (by decide) rfl ?_
  intro p e s m args below meth c s₁ B hml hv
  obtain ⟨rfl, hP, hE, hD, hA⟩ := hv
  have hK := hE.1
  have hx := B.exec
  have hb := B.bytes
  have hr := B.returns
  have hts := atoms_spec (ws := wsX5_collisions) B.pre
  have hown : s.vm.findClass RX5 = some m.cls := findClass_of_methodNamed B.named
  have hlocks := B.notSynchronized
  have hS : va_S A s.heap s.heap [] := va_S.rf
  have hl := lv_entry ([.ref (b 0), .int q]) (n := 2) (Nat.le_of_ble_eq_true rfl)
  rw [lg_entry_eq]
  generalize (lg_sl ([.ref (b 0), .int q]) ++ List.replicate (2 - (lg_sl ([.ref (b 0), .int q])).length) Slot.unset).toArray = ls at hl ⊢
  have hl : lv_has ls 2 [(0, .ref (b 0)), (1, .int q)] := hl
  refine lv_aload_n hx hb dX5_collisions_0 rfl (lv_at hl 0 rfl) ?_
  refine lv_iconst (v := 0) hx hb dX5_collisions_1 (by decide) ?_
  refine va_put (D := D) (ci := 5) (v := .int 0) (ty := .int) (C := RX5) (T := TX5) (N := 22) hx hb hts (fun _ h => List.mem_cons_of_mem _ (List.mem_append_right _ h)) tyX5 tyX5_ok nmX5 hown hK hP hD hS 0 rfl rfl 0 (by decide) (hts _ (List.mem_of_getElem? (i := 1) rfl)) (fun _ h9 => h9) rfl (by decide +kernel) rfl rfl (Nat.le_of_ble_eq_true rfl) dX5_collisions_2 (fun H locs hP hD hS => ?_)
  rw [rfW_th] at hP hD
  have hP : va_P D vwCl (rfW cI b (rs_th u 0)) H := hP
  have hD : va_D A (rfW cI b (rs_th u 0)) := hD
  refine lv_aload_n hx hb dX5_collisions_5 rfl (lv_at hl 0 rfl) ?_
  refine lv_iload_n hx hb dX5_collisions_6 rfl (lv_at hl 1 rfl) ?_
  refine kIa (rVa (As := [.int q]) (rest := []) ⟨hx, hb, hml, hown, hts⟩ (c_X5_isModel l D cI cL cM _ b (rs_th u 0) q ) (cwV 1 hts gX5_collisions_X5_isModel rfl rfl rfl (by decide +kernel) ⟨(Nat.le_of_ble_eq_true rfl), (Nat.le_of_ble_eq_true rfl)⟩) hE hP hD hS hA 0 rfl rfl rfl hl.1 rfl (Nat.le_of_ble_eq_true rfl) dX5_collisions_7 ⟨(Nat.le_of_ble_eq_true rfl), (Nat.le_of_ble_eq_true rfl)⟩) hS (fun H locs hP hD hS => ?_)
  have hP : va_P D vwCl (rfW cI b (rs_th u 0)) H := hP
  have hD : va_D A (rfW cI b (rs_th u 0)) := hD
  refine lv_if_eq (tgt := 22) hx hb dX5_collisions_10 (by decide) (fun cm => ?_) (fun cm => ?_)
  · replace cm : (isI q 0 (nI (r_n u) - 1)) = (0 : Int32) := cm
    refine lv_aload_n hx hb dX5_collisions_22 rfl (lv_at hl 0 rfl) ?_
    refine lv_iconst (v := 1) hx hb dX5_collisions_23 (by decide) ?_
    refine kIa (rVa (As := [.int 1]) (rest := []) ⟨hx, hb, hml, hown, hts⟩ (c_X5_no l D cI cL cM _ b (rs_th u 0) 1 ) (cwV 1 hts gX5_collisions_X5_no rfl rfl rfl (by decide +kernel) ⟨(Nat.le_of_ble_eq_true rfl), (Nat.le_of_ble_eq_true rfl)⟩) hE hP hD hS hA 0 rfl rfl rfl hl.1 rfl (Nat.le_of_ble_eq_true rfl) dX5_collisions_24 ⟨(Nat.le_of_ble_eq_true rfl), (Nat.le_of_ble_eq_true rfl)⟩) hS (fun H locs hP hD hS => ?_)
    have hP : va_P D vwCl (rfW cI b (rs_th (rs_th u 0) 1)) H := hP
    have hD : va_D A (rfW cI b (rs_th (rs_th u 0) 1)) := hD
    have hw9 : (rfW cI b (rs_th (rs_th u 0) 1)) = (rfW cI b (if isI q 0 (nI (r_n u) - 1) = 0 then (rs_th (rs_th u 0) 1) else (rs_th u 0))) := by first | (rw [if_pos cm]; try rfl) | (rw [if_neg cm]; try rfl)
    rw [hw9] at hP hD
    exact W.iret (v := (0)) hx hb hr (fun t ht hW => ⟨⟨(0), (), rfl, by (first | (rw [if_pos cm]) | (rw [if_neg cm, hcl]; try rfl)), by rw [ht]; exact hP, hD⟩, hS.F ht⟩) hS.2.2 dX5_collisions_27
  · replace cm : ¬ (isI q 0 (nI (r_n u) - 1)) = (0 : Int32) := cm
    obtain ⟨hn6, hnd, hnd0, hsj⟩ := id hs
    obtain ⟨j, hjn, hq⟩ := isI0 (by omega) cm
    have hj6 : j < 6 := by omega
    obtain ⟨hod, hlo, hix⟩ := hsj j hjn
    have hcl := clN hq hj6 (Nat.le_of_ble_eq_true rfl)
    refine lv_aload_n hx hb dX5_collisions_13 rfl (lv_at hl 0 rfl) ?_
    refine va_get (D := D) (ci := 5) (v := .ref (b 9)) (C := RX5) (T := TX5) (N := 22) hx hb hts (fun _ h => List.mem_cons_of_mem _ (List.mem_append_right _ h)) hown hK hP 0 rfl rfl 11 (by decide) (hts _ (List.mem_of_getElem? (i := 2) rfl)) (fun _ h9 => h9) rfl dX5_collisions_14 ?_
    refine lv_iload_n hx hb dX5_collisions_17 rfl (lv_at hl 1 rfl) ?_
    refine topI (y := nI j) (hq) ?_
    refine ildN hx hb hK hP 9 0 rfl rfl j (hj6) ((Nat.le_of_ble_eq_true rfl)) dX5_collisions_18 ?_
    refine lv_goto (tgt := 27) hx hb dX5_collisions_19 (by decide) ?_
    have hw9 : (rfW cI b (rs_th u 0)) = (rfW cI b (if isI q 0 (nI (r_n u) - 1) = 0 then (rs_th (rs_th u 0) 1) else (rs_th u 0))) := by first | (rw [if_pos cm]; try rfl) | (rw [if_neg cm]; try rfl)
    rw [hw9] at hP hD
    exact W.iret (v := (r_cl u) j) hx hb hr (fun t ht hW => ⟨⟨((r_cl u) j), (), rfl, by (first | (rw [if_pos cm]) | (rw [if_neg cm, hcl]; try rfl)), by rw [ht]; exact hP, hD⟩, hS.F ht⟩) hS.2.2 dX5_collisions_27
