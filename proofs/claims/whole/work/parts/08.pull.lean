def i_pul (u : IR) : IR := is_v u (v_pul (i_v u) (i_r u))
theorem i_pul_r (u : IR) : i_r (i_pul u) = i_r u := i_r_v u _
def i_lod (u : IR) : IR := i_pul (i_pul (i_pul (i_pul u)))
set_option maxHeartbeats 4000000 in
set_option maxRecDepth 100000 in
theorem c_X1_pull (l : Launch) (D : va_G) (cI cL cM : ClassId) (A : Nat → Prop) (h0 g0 g1 lim : Nat) (u : IR) (hc : q_c (i_r u) ≤ lim) (hm : lim < 2147483648) : mV l yX1_pull wsX1_pull ({ frames := 2, cells := 0, slots := 0, locals := 42 }) D (tB cI cL cM) A [.ref h0, .ref g0] (irW cI h0 g0 g1 lim u) (irW cI h0 g0 g1 lim (i_pul u)) := by
  refine Met.ofW (cc := cX1_pull) (maxL := 2) (ret := none) (by decide) rfl ?_
  intro p e s m args below meth c s₁ B hml hv
  obtain ⟨rfl, hP, hE, hD, hA⟩ := hv
  have hK := hE.1
  have hx := B.exec
  have hb := B.bytes
  have hr := B.returns
  have hts := atoms_spec (ws := wsX1_pull) B.pre
  have hown : s.vm.findClass RX1 = some m.cls := findClass_of_methodNamed B.named
  have hlocks := B.notSynchronized
  have hS : va_S A s.heap s.heap [] := va_S.rf
  have hl := lv_entry ([.ref h0, .ref g0]) (n := 2) (Nat.le_of_ble_eq_true rfl)
  rw [lg_entry_eq]
  generalize (lg_sl ([.ref h0, .ref g0]) ++ List.replicate (2 - (lg_sl ([.ref h0, .ref g0])).length) Slot.unset).toArray = ls at hl ⊢
  have hl : lv_has ls 2 [(0, .ref h0), (1, .ref g0)] := hl
  refine lv_aload_n hx hb dX1_pull_0 rfl (lv_at hl 0 rfl) ?_
  refine lv_aload_n hx hb dX1_pull_1 rfl (lv_at hl 0 rfl) ?_
  refine va_get (D := D) (ci := 1) (v := .long (v_x (i_v u))) (C := RX1) (T := TX1) (N := 4) hx hb hts (fun _ h => List.mem_cons_of_mem _ (List.mem_append_left _ (List.mem_append_right _ h))) hown hK hP 0 rfl rfl 2 (by decide) (hts _ (List.mem_of_getElem? (i := 1) rfl)) (fun _ h9 => h9) rfl dX1_pull_2 ?_
  refine lv_bipush (v := 8) hx hb dX1_pull_5 (by decide) ?_
  refine lv_lshl hx hb dX1_pull_7 rfl ?_
  refine lv_ldc2 hx hb hown (hts _ (List.mem_of_getElem? (i := 2) rfl)) dX1_pull_8 ?_
  refine lv_land hx hb dX1_pull_11 ?_
  refine lv_aload_n hx hb dX1_pull_12 rfl (lv_at hl 1 rfl) ?_
  refine lv_aload_n hx hb dX1_pull_13 rfl (lv_at hl 0 rfl) ?_
  refine va_get (D := D) (ci := 1) (v := .int (v_nx (i_v u))) (C := RX1) (T := TX1) (N := 4) hx hb hts (fun _ h => List.mem_cons_of_mem _ (List.mem_append_left _ (List.mem_append_right _ h))) hown hK hP 0 rfl rfl 3 (by decide) (hts _ (List.mem_of_getElem? (i := 3) rfl)) (fun _ h9 => h9) rfl dX1_pull_14 ?_
  refine kI (rV (As := [.int (v_nx (i_v u))]) (rest := [.long (((v_x (i_v u)) <<< ((8 : Int32).toInt64 &&& 63)) &&& 4294967295), .ref h0]) ⟨hx, hb, hml, hown, hts⟩ (c_X0_at l D cI cL cM _ g0 g1 lim (i_r u) (v_nx (i_v u)) hc hm) (cwV 1 hts gX1_pull_X0_at rfl rfl rfl (by decide +kernel) ⟨(Nat.le_of_ble_eq_true rfl), (Nat.le_of_ble_eq_true rfl)⟩) hE hP hD [1, 2] rfl rfl rfl rfl rfl hl.1 rfl (Nat.le_of_ble_eq_true rfl) dX1_pull_17 ⟨(Nat.le_of_ble_eq_true rfl), (Nat.le_of_ble_eq_true rfl)⟩) hP hD hS hA (is := [1, 2]) rfl rfl (fun H locs hP hD hS => ?_)
  rw [irW_row, is_r_self] at hP hD
  have hP : va_P D vwCl (irW cI h0 g0 g1 lim u) H := hP
  have hD : va_D A (irW cI h0 g0 g1 lim u) := hD
  refine lv_i2l hx hb dX1_pull_20 rfl ?_
  refine lv_ladd hx hb dX1_pull_21 ?_
  refine va_put (D := D) (ci := 1) (v := .long ((((v_x (i_v u)) <<< ((8 : Int32).toInt64 &&& 63)) &&& 4294967295) + ((q_at (i_r u) (v_nx (i_v u))).toInt64))) (ty := .long) (C := RX1) (T := TX1) (N := 4) hx hb hts (fun _ h => List.mem_cons_of_mem _ (List.mem_append_left _ (List.mem_append_right _ h))) tyX1 tyX1_ok nmX1 hown hK hP hD hS 0 rfl rfl 2 (by decide) (hts _ (List.mem_of_getElem? (i := 1) rfl)) (fun _ h9 => h9) rfl (by decide +kernel) rfl rfl (Nat.le_of_ble_eq_true rfl) dX1_pull_22 (fun H locs hP hD hS => ?_)
  have hP : va_P D vwCl (irW cI h0 g0 g1 lim (is_v u (vs_x (i_v u) ((((v_x (i_v u)) <<< ((8 : Int32).toInt64 &&& 63)) &&& 4294967295) + ((q_at (i_r u) (v_nx (i_v u))).toInt64))))) H := hP
  have hD : va_D A (irW cI h0 g0 g1 lim (is_v u (vs_x (i_v u) ((((v_x (i_v u)) <<< ((8 : Int32).toInt64 &&& 63)) &&& 4294967295) + ((q_at (i_r u) (v_nx (i_v u))).toInt64))))) := hD
  refine lv_aload_n hx hb dX1_pull_25 rfl (lv_at hl 0 rfl) ?_
  refine lv_dup hx hb dX1_pull_26 rfl ?_
  refine va_get (D := D) (ci := 1) (v := .int (v_nx (i_v u))) (C := RX1) (T := TX1) (N := 4) hx hb hts (fun _ h => List.mem_cons_of_mem _ (List.mem_append_left _ (List.mem_append_right _ h))) hown hK hP 0 rfl rfl 3 (by decide) (hts _ (List.mem_of_getElem? (i := 3) rfl)) (fun _ h9 => h9) rfl dX1_pull_27 ?_
  refine lv_iconst (v := 1) hx hb dX1_pull_30 (by decide) ?_
  refine lv_iadd hx hb dX1_pull_31 ?_
  refine va_put (D := D) (ci := 1) (v := .int ((v_nx (i_v u)) + 1)) (ty := .int) (C := RX1) (T := TX1) (N := 4) hx hb hts (fun _ h => List.mem_cons_of_mem _ (List.mem_append_left _ (List.mem_append_right _ h))) tyX1 tyX1_ok nmX1 hown hK hP hD hS 0 rfl rfl 3 (by decide) (hts _ (List.mem_of_getElem? (i := 3) rfl)) (fun _ h9 => h9) rfl (by decide +kernel) rfl rfl (Nat.le_of_ble_eq_true rfl) dX1_pull_32 (fun H locs hP hD hS => ?_)
  have hP : va_P D vwCl (irW cI h0 g0 g1 lim (is_v u (vs_nx (vs_x (i_v u) ((((v_x (i_v u)) <<< ((8 : Int32).toInt64 &&& 63)) &&& 4294967295) + ((q_at (i_r u) (v_nx (i_v u))).toInt64))) ((v_nx (i_v u)) + 1)))) H := hP
  have hD : va_D A (irW cI h0 g0 g1 lim (is_v u (vs_nx (vs_x (i_v u) ((((v_x (i_v u)) <<< ((8 : Int32).toInt64 &&& 63)) &&& 4294967295) + ((q_at (i_r u) (v_nx (i_v u))).toInt64))) ((v_nx (i_v u)) + 1)))) := hD
  have hw9 : (irW cI h0 g0 g1 lim (is_v u (vs_nx (vs_x (i_v u) ((((v_x (i_v u)) <<< ((8 : Int32).toInt64 &&& 63)) &&& 4294967295) + ((q_at (i_r u) (v_nx (i_v u))).toInt64))) ((v_nx (i_v u)) + 1)))) = (irW cI h0 g0 g1 lim (i_pul u)) := by rfl
  rw [hw9] at hP hD
  exact W.vret hx hb hr (fun t ht hW => ⟨⟨(), rfl, trivial, by rw [ht]; exact hP, hD⟩, hS.F ht⟩) hS.2.2 dX1_pull_35

set_option maxHeartbeats 4000000 in
set_option maxRecDepth 100000 in
theorem c_X1_load (l : Launch) (D : va_G) (cI cL cM : ClassId) (A : Nat → Prop) (h0 g0 g1 lim : Nat) (u : IR) (hc : q_c (i_r u) ≤ lim) (hm : lim < 2147483648) : mV l yX1_load wsX1_load ({ frames := 3, cells := 0, slots := 0, locals := 63 }) D (tB cI cL cM) A [.ref h0, .ref g0] (irW cI h0 g0 g1 lim u) (irW cI h0 g0 g1 lim (i_lod u)) := by
  refine Met.ofW (cc := cX1_load) (maxL := 3) (ret := none) (by decide) rfl ?_
  intro p e s m args below meth c s₁ B hml hv
  obtain ⟨rfl, hP, hE, hD, hA⟩ := hv
  have hK := hE.1
  have hx := B.exec
  have hb := B.bytes
  have hr := B.returns
  have hts := atoms_spec (ws := wsX1_load) B.pre
  have hown : s.vm.findClass RX1 = some m.cls := findClass_of_methodNamed B.named
  have hlocks := B.notSynchronized
  have hS : va_S A s.heap s.heap [] := va_S.rf
  have hl := lv_entry ([.ref h0, .ref g0]) (n := 3) (Nat.le_of_ble_eq_true rfl)
  rw [lg_entry_eq]
  generalize (lg_sl ([.ref h0, .ref g0]) ++ List.replicate (3 - (lg_sl ([.ref h0, .ref g0])).length) Slot.unset).toArray = ls at hl ⊢
  have hl : lv_has ls 3 [(0, .ref h0), (1, .ref g0)] := hl
  refine lv_iconst (v := 0) hx hb dX1_load_0 (by decide) ?_
  refine lv_istore_n (lv' := [(2, .int 0), (0, .ref h0), (1, .ref g0)]) hx hb dX1_load_1 rfl hl (by decide) rfl (fun ls hl => ?_)
  refine lv_iload_n hx hb dX1_load_2 rfl (lv_at hl 0 rfl) ?_
  refine lv_iconst (v := 4) hx hb dX1_load_3 (by decide) ?_
  refine lv_icmp_ge (tgt := 18) hx hb dX1_load_4 (by decide) (fun c_1 => absurd c_1 (by decide)) (fun c_1 => ?_)
  refine lv_aload_n hx hb dX1_load_7 rfl (lv_at hl 1 rfl) ?_
  refine lv_aload_n hx hb dX1_load_8 rfl (lv_at hl 2 rfl) ?_
  refine kV (rV (As := [.ref g0]) (rest := []) ⟨hx, hb, hml, hown, hts⟩ (c_X1_pull l D cI cL cM _ h0 g0 g1 lim u hc hm) (cwV 1 hts gX1_load_X1_pull rfl rfl rfl (by decide +kernel) ⟨(Nat.le_of_ble_eq_true rfl), (Nat.le_of_ble_eq_true rfl)⟩) hE hP hD [0, 1, 2] rfl rfl rfl rfl rfl hl.1 rfl (Nat.le_of_ble_eq_true rfl) dX1_load_9 ⟨(Nat.le_of_ble_eq_true rfl), (Nat.le_of_ble_eq_true rfl)⟩) hP hD hS hA (is := [0, 1, 2]) rfl rfl (fun H locs hP hD hS => ?_)
  rw [irW_all] at hP hD
  have hP : va_P D vwCl (irW cI h0 g0 g1 lim (i_pul u)) H := hP
  have hD : va_D A (irW cI h0 g0 g1 lim (i_pul u)) := hD
  obtain ⟨u_2, hu_2⟩ : ∃ y9 : IR, y9 = (i_pul u) := ⟨_, rfl⟩
  rw [← hu_2] at hP hD
  have hc : q_c (i_r u_2) ≤ lim := by rw [hu_2, i_pul_r]; exact hc
  refine lv_iinc (v := 1) (lv' := [(2, .int 1), (0, .ref h0), (1, .ref g0)]) hx hb dX1_load_12 hl (k := 0) rfl (by decide) (by decide) rfl (fun ls hl => ?_)
  refine lv_goto (tgt := 2) hx hb dX1_load_15 (by decide) ?_
  refine lv_iload_n hx hb dX1_load_2 rfl (lv_at hl 0 rfl) ?_
  refine lv_iconst (v := 4) hx hb dX1_load_3 (by decide) ?_
  refine lv_icmp_ge (tgt := 18) hx hb dX1_load_4 (by decide) (fun c_3 => absurd c_3 (by decide)) (fun c_3 => ?_)
  refine lv_aload_n hx hb dX1_load_7 rfl (lv_at hl 1 rfl) ?_
  refine lv_aload_n hx hb dX1_load_8 rfl (lv_at hl 2 rfl) ?_
  refine kV (rV (As := [.ref g0]) (rest := []) ⟨hx, hb, hml, hown, hts⟩ (c_X1_pull l D cI cL cM _ h0 g0 g1 lim u_2 hc hm) (cwV 1 hts gX1_load_X1_pull rfl rfl rfl (by decide +kernel) ⟨(Nat.le_of_ble_eq_true rfl), (Nat.le_of_ble_eq_true rfl)⟩) hE hP hD [0, 1, 2] rfl rfl rfl rfl rfl hl.1 rfl (Nat.le_of_ble_eq_true rfl) dX1_load_9 ⟨(Nat.le_of_ble_eq_true rfl), (Nat.le_of_ble_eq_true rfl)⟩) hP hD hS hA (is := [0, 1, 2]) rfl rfl (fun H locs hP hD hS => ?_)
  rw [irW_all] at hP hD
  have hP : va_P D vwCl (irW cI h0 g0 g1 lim (i_pul u_2)) H := hP
  have hD : va_D A (irW cI h0 g0 g1 lim (i_pul u_2)) := hD
  obtain ⟨u_4, hu_4⟩ : ∃ y9 : IR, y9 = (i_pul u_2) := ⟨_, rfl⟩
  rw [← hu_4] at hP hD
  have hc : q_c (i_r u_4) ≤ lim := by rw [hu_4, i_pul_r]; exact hc
  refine lv_iinc (v := 2) (lv' := [(2, .int 2), (0, .ref h0), (1, .ref g0)]) hx hb dX1_load_12 hl (k := 0) rfl (by decide) (by decide) rfl (fun ls hl => ?_)
  refine lv_goto (tgt := 2) hx hb dX1_load_15 (by decide) ?_
  refine lv_iload_n hx hb dX1_load_2 rfl (lv_at hl 0 rfl) ?_
  refine lv_iconst (v := 4) hx hb dX1_load_3 (by decide) ?_
  refine lv_icmp_ge (tgt := 18) hx hb dX1_load_4 (by decide) (fun c_5 => absurd c_5 (by decide)) (fun c_5 => ?_)
  refine lv_aload_n hx hb dX1_load_7 rfl (lv_at hl 1 rfl) ?_
  refine lv_aload_n hx hb dX1_load_8 rfl (lv_at hl 2 rfl) ?_
  refine kV (rV (As := [.ref g0]) (rest := []) ⟨hx, hb, hml, hown, hts⟩ (c_X1_pull l D cI cL cM _ h0 g0 g1 lim u_4 hc hm) (cwV 1 hts gX1_load_X1_pull rfl rfl rfl (by decide +kernel) ⟨(Nat.le_of_ble_eq_true rfl), (Nat.le_of_ble_eq_true rfl)⟩) hE hP hD [0, 1, 2] rfl rfl rfl rfl rfl hl.1 rfl (Nat.le_of_ble_eq_true rfl) dX1_load_9 ⟨(Nat.le_of_ble_eq_true rfl), (Nat.le_of_ble_eq_true rfl)⟩) hP hD hS hA (is := [0, 1, 2]) rfl rfl (fun H locs hP hD hS => ?_)
  rw [irW_all] at hP hD
  have hP : va_P D vwCl (irW cI h0 g0 g1 lim (i_pul u_4)) H := hP
  have hD : va_D A (irW cI h0 g0 g1 lim (i_pul u_4)) := hD
  obtain ⟨u_6, hu_6⟩ : ∃ y9 : IR, y9 = (i_pul u_4) := ⟨_, rfl⟩
  rw [← hu_6] at hP hD
  have hc : q_c (i_r u_6) ≤ lim := by rw [hu_6, i_pul_r]; exact hc
  refine lv_iinc (v := 3) (lv' := [(2, .int 3), (0, .ref h0), (1, .ref g0)]) hx hb dX1_load_12 hl (k := 0) rfl (by decide) (by decide) rfl (fun ls hl => ?_)
  refine lv_goto (tgt := 2) hx hb dX1_load_15 (by decide) ?_
  refine lv_iload_n hx hb dX1_load_2 rfl (lv_at hl 0 rfl) ?_
  refine lv_iconst (v := 4) hx hb dX1_load_3 (by decide) ?_
  refine lv_icmp_ge (tgt := 18) hx hb dX1_load_4 (by decide) (fun c_7 => absurd c_7 (by decide)) (fun c_7 => ?_)
  refine lv_aload_n hx hb dX1_load_7 rfl (lv_at hl 1 rfl) ?_
  refine lv_aload_n hx hb dX1_load_8 rfl (lv_at hl 2 rfl) ?_
  refine kV (rV (As := [.ref g0]) (rest := []) ⟨hx, hb, hml, hown, hts⟩ (c_X1_pull l D cI cL cM _ h0 g0 g1 lim u_6 hc hm) (cwV 1 hts gX1_load_X1_pull rfl rfl rfl (by decide +kernel) ⟨(Nat.le_of_ble_eq_true rfl), (Nat.le_of_ble_eq_true rfl)⟩) hE hP hD [0, 1, 2] rfl rfl rfl rfl rfl hl.1 rfl (Nat.le_of_ble_eq_true rfl) dX1_load_9 ⟨(Nat.le_of_ble_eq_true rfl), (Nat.le_of_ble_eq_true rfl)⟩) hP hD hS hA (is := [0, 1, 2]) rfl rfl (fun H locs hP hD hS => ?_)
  rw [irW_all] at hP hD
  have hP : va_P D vwCl (irW cI h0 g0 g1 lim (i_pul u_6)) H := hP
  have hD : va_D A (irW cI h0 g0 g1 lim (i_pul u_6)) := hD
  obtain ⟨u_8, hu_8⟩ : ∃ y9 : IR, y9 = (i_pul u_6) := ⟨_, rfl⟩
  rw [← hu_8] at hP hD
  have hc : q_c (i_r u_8) ≤ lim := by rw [hu_8, i_pul_r]; exact hc
  refine lv_iinc (v := 4) (lv' := [(2, .int 4), (0, .ref h0), (1, .ref g0)]) hx hb dX1_load_12 hl (k := 0) rfl (by decide) (by decide) rfl (fun ls hl => ?_)
  refine lv_goto (tgt := 2) hx hb dX1_load_15 (by decide) ?_
  refine lv_iload_n hx hb dX1_load_2 rfl (lv_at hl 0 rfl) ?_
  refine lv_iconst (v := 4) hx hb dX1_load_3 (by decide) ?_
  refine lv_icmp_ge (tgt := 18) hx hb dX1_load_4 (by decide) (fun c_9 => ?_) (fun c_9 => absurd (by decide) c_9)
  subst hu_8
  subst hu_6
  subst hu_4
  subst hu_2
  have hw9 : (irW cI h0 g0 g1 lim (i_pul (i_pul (i_pul (i_pul u))))) = (irW cI h0 g0 g1 lim (i_lod u)) := by rfl
  rw [hw9] at hP hD
  exact W.vret hx hb hr (fun t ht hW => ⟨⟨(), rfl, trivial, by rw [ht]; exact hP, hD⟩, hS.F ht⟩) hS.2.2 dX1_load_18
