theorem k_st_n (z : Int32) (k : Pr) : k_n (k_st z k) = k_n k := by unfold k_st; split <;> rfl

set_option maxHeartbeats 4000000 in
set_option maxRecDepth 100000 in
theorem c_X3_mixture (l : Launch) (D : va_G) (cI cL cM : ClassId) (A : Nat → Prop) (a : Nat → Nat) (k : Pr) (hn6 : k_n k ≤ 6) (hph : vp_in (k_ph k) 8) (hpl : ∀ j, j < k_n k → vp_in (o_pl (k_mo k j)) 512) : mI l yX3_mixture wsX3_mixture ({ frames := 1, cells := 0, slots := 0, locals := 24 }) D (tB cI cL cM) A [.ref (a 7)] (prW cI cL cM a k) (k_mx k) (prW cI cL cM a k) := by
  refine Met.ofW (cc := cX3_mixture) (maxL := 5) (ret := (some .int)) (by decide) rfl ?_
  intro p e s m args below meth c s₁ B hml hv
  obtain ⟨rfl, hP, hE, hD, hA⟩ := hv
  have hK := hE.1
  have hx := B.exec
  have hb := B.bytes
  have hr := B.returns
  have hts := atoms_spec (ws := wsX3_mixture) B.pre
  have hown : s.vm.findClass RX3 = some m.cls := findClass_of_methodNamed B.named
  have hlocks := B.notSynchronized
  have hS : va_S A s.heap s.heap [] := va_S.rf
  have hl := lv_entry ([.ref (a 7)]) (n := 5) (Nat.le_of_ble_eq_true rfl)
  rw [lg_entry_eq]
  generalize (lg_sl ([.ref (a 7)]) ++ List.replicate (5 - (lg_sl ([.ref (a 7)])).length) Slot.unset).toArray = ls at hl ⊢
  have hl : lv_has ls 5 [(0, .ref (a 7))] := hl
  refine lv_iconst (v := 0) hx hb dX3_mixture_0 (by decide) ?_
  refine lv_istore_n (lv' := [(1, .int 0), (0, .ref (a 7))]) hx hb dX3_mixture_1 rfl hl (by decide) rfl (fun ls hl => ?_)
  refine lv_iconst (v := 0) hx hb dX3_mixture_2 (by decide) ?_
  refine lv_istore_n (lv' := [(2, .int 0), (1, .int 0), (0, .ref (a 7))]) hx hb dX3_mixture_3 rfl hl (by decide) rfl (fun ls hl => ?_)
  refine lv_iconst (v := 0) hx hb dX3_mixture_4 (by decide) ?_
  refine lv_istore_n (lv' := [(3, .int 0), (2, .int 0), (1, .int 0), (0, .ref (a 7))]) hx hb dX3_mixture_5 rfl hl (by decide) rfl (fun ls hl => ?_)
  have lp6 : ∀ (n9 : Nat) (j : Nat) (hj : j ≤ k_n k), k_n k - j < n9 → ∀ (H : Heap) (locs : List Loc), va_P D vwCl (prW cI cL cM a k) H → va_D A (prW cI cL cM a k) → va_S A s.heap H locs → ∀ (ls : Array Slot), lv_has ls 5 [(3, .int (nI j)), (1, .int (sumP (k_w k) (k_g k) j)), (2, .int (sumT (k_w k) j)), (0, .ref (a 7))] → W p l e (headSpec wsX3_mixture ({ frames := 1, cells := 0, slots := 0, locals := 24 })).room s m (([.ref (a 7)] : List Value).toArray) below meth c H locs 0 0 (MQ below (va_Qi (fun x (_ : Unit) => x = (k_mx k)) (fun _ t => hq D A (prW cI cL cM a k) t) A) (([.ref (a 7)] : List Value).toArray) s 0 0 A) (F0 m 6 ls []) := by
    intro n9
    induction n9 with
    | zero => intro j hj hm9; exact absurd hm9 (Nat.not_lt_zero _)
    | succ n9 ih_lp6 =>
      intro j hj hm9 H locs hP hD hS ls hl
      refine lv_iload_n hx hb dX3_mixture_6 rfl (lv_at hl 0 rfl) ?_
      refine lv_aload_n hx hb dX3_mixture_7 rfl (lv_at hl 3 rfl) ?_
      refine va_get (D := D) (ci := 3) (v := .int (nI (k_n k))) (C := RX3) (T := TX3) (N := 7) hx hb hts (fun _ h => List.mem_cons_of_mem _ (List.mem_append_left _ (List.mem_append_right _ h))) hown hK hP 0 rfl rfl 1 (by decide) (hts _ (List.mem_of_getElem? (i := 1) rfl)) (fun _ h9 => h9) rfl dX3_mixture_8 ?_
      refine lv_icmp_ge (tgt := 56) hx hb dX3_mixture_11 (by decide) (fun cj => ?_) (fun cj => ?_)
      · have cj : (nI (k_n k)) ≤ (nI j) := cj
        have hjn : j = k_n k := by have h8 := ge_N (by omega) (by omega) cj; omega
        refine lv_iload_n hx hb dX3_mixture_56 rfl (lv_at hl 2 rfl) ?_
        refine lv_if_gt (tgt := 64) hx hb dX3_mixture_57 (by decide) (fun cT => ?_) (fun cT => ?_)
        · have cT : (0 : Int32) < (sumT (k_w k) j) := cT
          refine lv_iconst (v := 1) hx hb dX3_mixture_64 (by decide) ?_
          refine lv_iload_n hx hb dX3_mixture_65 rfl (lv_at hl 1 rfl) ?_
          refine lv_iload_n hx hb dX3_mixture_66 rfl (lv_at hl 2 rfl) ?_
          refine lv_idiv hx hb dX3_mixture_67 (fun h9 => absurd cT (by rw [h9]; decide)) ?_
          refine lv_sipush (v := 4095) hx hb dX3_mixture_68 (by decide) ?_
          refine va_mmin hx hb (hml.trans hl.1.symm) hown (hts _ (List.mem_of_getElem? (i := 5) rfl)) (hts _ (List.mem_of_getElem? (i := 6) rfl)) (hts _ (List.mem_of_getElem? (i := 7) rfl)) (hts _ (List.mem_of_getElem? (i := 8) rfl)) (Nat.le_of_ble_eq_true rfl) (Nat.le_of_ble_eq_true rfl) (Nat.le_of_ble_eq_true rfl) (Nat.le_of_ble_eq_true rfl) dX3_mixture_71 ?_
          refine va_mmax hx hb (hml.trans hl.1.symm) hown (hts _ (List.mem_of_getElem? (i := 9) rfl)) (hts _ (List.mem_of_getElem? (i := 10) rfl)) (hts _ (List.mem_of_getElem? (i := 7) rfl)) (hts _ (List.mem_of_getElem? (i := 11) rfl)) (Nat.le_of_ble_eq_true rfl) (Nat.le_of_ble_eq_true rfl) (Nat.le_of_ble_eq_true rfl) (Nat.le_of_ble_eq_true rfl) dX3_mixture_74 ?_
          exact W.iret (v := if (1 : Int32) < (if (4095 : Int32) < ((sumP (k_w k) (k_g k) j) / (sumT (k_w k) j)) then (4095 : Int32) else ((sumP (k_w k) (k_g k) j) / (sumT (k_w k) j))) then (if (4095 : Int32) < ((sumP (k_w k) (k_g k) j) / (sumT (k_w k) j)) then (4095 : Int32) else ((sumP (k_w k) (k_g k) j) / (sumT (k_w k) j))) else (1 : Int32)) hx hb hr (fun t ht hW => ⟨⟨(if (1 : Int32) < (if (4095 : Int32) < ((sumP (k_w k) (k_g k) j) / (sumT (k_w k) j)) then (4095 : Int32) else ((sumP (k_w k) (k_g k) j) / (sumT (k_w k) j))) then (if (4095 : Int32) < ((sumP (k_w k) (k_g k) j) / (sumT (k_w k) j)) then (4095 : Int32) else ((sumP (k_w k) (k_g k) j) / (sumT (k_w k) j))) else (1 : Int32)), (), rfl, by (unfold k_mx; rw [← hjn, if_pos cT]; rfl), by rw [ht]; exact hP, hD⟩, hS.F ht⟩) hS.2.2 dX3_mixture_77
        · have cT : ¬ (0 : Int32) < (sumT (k_w k) j) := cT
          refine lv_sipush (v := 2048) hx hb dX3_mixture_60 (by decide) ?_
          exact W.iret (v := 2048) hx hb hr (fun t ht hW => ⟨⟨2048, (), rfl, by (unfold k_mx; rw [← hjn, if_neg cT]), by rw [ht]; exact hP, hD⟩, hS.F ht⟩) hS.2.2 dX3_mixture_63
      · have cj : ¬ (nI (k_n k)) ≤ (nI j) := cj
        have hjn : j < k_n k := nge_N (by omega) (by omega) cj
        have hm6 : j < 6 := by omega
        refine lv_aload_n hx hb dX3_mixture_14 rfl (lv_at hl 3 rfl) ?_
        refine va_get (D := D) (ci := 3) (v := .ref (a 8)) (C := RX3) (T := TX3) (N := 7) hx hb hts (fun _ h => List.mem_cons_of_mem _ (List.mem_append_left _ (List.mem_append_right _ h))) hown hK hP 0 rfl rfl 0 (by decide) (hts _ (List.mem_of_getElem? (i := 2) rfl)) (fun _ h9 => h9) rfl dX3_mixture_15 ?_
        refine lv_iload_n hx hb dX3_mixture_18 rfl (lv_at hl 0 rfl) ?_
        refine aldN hx hb hK hP 1 2 rfl rfl j (hm6) (Nat.le_of_ble_eq_true rfl) rfl dX3_mixture_19 ?_
        refine va_get (D := D) (ci := 2) (v := .ref (a (14 + 4 * j))) (C := RX2) (T := TX2) (N := 10) hx hb hts (fun _ h => List.mem_cons_of_mem _ (List.mem_append_right _ h)) hown hK hP (3 + 4 * j) (prW_o cI cL cM a _ hm6) rfl 5 (by decide) (hts _ (List.mem_of_getElem? (i := 3) rfl)) (fun _ h9 => h9) rfl dX3_mixture_20 ?_
        refine lv_aload_n hx hb dX3_mixture_23 rfl (lv_at hl 3 rfl) ?_
        refine va_get (D := D) (ci := 3) (v := .int (k_ph k)) (C := RX3) (T := TX3) (N := 7) hx hb hts (fun _ h => List.mem_cons_of_mem _ (List.mem_append_left _ (List.mem_append_right _ h))) hown hK hP 0 rfl rfl 4 (by decide) (hts _ (List.mem_of_getElem? (i := 4) rfl)) (fun _ h9 => h9) rfl dX3_mixture_24 ?_
        refine va_iald hx hb hK hP (6 + 4 * j) 0 (prW_w cI cL cM a _ hm6) rfl (hph) dX3_mixture_27 ?_
        refine lv_istore (lv' := [(4, .int ((o_we ((k_mo k) j)) (k_ph k).toNatClampNeg)), (3, .int (nI j)), (1, .int (sumP (k_w k) (k_g k) j)), (2, .int (sumT (k_w k) j)), (0, .ref (a 7))]) hx hb dX3_mixture_28 hl (by decide) rfl (fun ls hl => ?_)
        refine lv_iload_n hx hb dX3_mixture_30 rfl (lv_at hl 2 rfl) ?_
        refine lv_iload hx hb dX3_mixture_31 (lv_at hl 0 rfl) ?_
        refine lv_aload_n hx hb dX3_mixture_33 rfl (lv_at hl 4 rfl) ?_
        refine va_get (D := D) (ci := 3) (v := .ref (a 8)) (C := RX3) (T := TX3) (N := 7) hx hb hts (fun _ h => List.mem_cons_of_mem _ (List.mem_append_left _ (List.mem_append_right _ h))) hown hK hP 0 rfl rfl 0 (by decide) (hts _ (List.mem_of_getElem? (i := 2) rfl)) (fun _ h9 => h9) rfl dX3_mixture_34 ?_
        refine lv_iload_n hx hb dX3_mixture_37 rfl (lv_at hl 1 rfl) ?_
        refine aldN hx hb hK hP 1 2 rfl rfl j (hm6) (Nat.le_of_ble_eq_true rfl) rfl dX3_mixture_38 ?_
        refine kI (rV (As := []) (rest := [.int ((o_we ((k_mo k) j)) (k_ph k).toNatClampNeg), .int (sumP (k_w k) (k_g k) j)]) ⟨hx, hb, hml, hown, hts⟩ (c_X2_guess l D cI cL cM _ (a (11 + 4 * j)) (a (12 + 4 * j)) (a (13 + 4 * j)) (a (14 + 4 * j)) ((k_mo k) j)  (hpl j hjn)) (cwV 0 hts gX3_mixture_X2_guess rfl rfl rfl (by decide +kernel) ⟨(Nat.le_of_ble_eq_true rfl), (Nat.le_of_ble_eq_true rfl)⟩) hE hP hD [3 + 4 * j, 4 + 4 * j, 5 + 4 * j, 6 + 4 * j] (prW_nd hm6) (prW_C cI cL cM a _ hm6) rfl rfl rfl hl.1 rfl (Nat.le_of_ble_eq_true rfl) dX3_mixture_39 ⟨(Nat.le_of_ble_eq_true rfl), (Nat.le_of_ble_eq_true rfl)⟩) hP hD hS hA (is := [3 + 4 * j, 4 + 4 * j, 5 + 4 * j, 6 + 4 * j]) (prW_C cI cL cM a _ hm6) rfl (fun H locs hP hD hS => ?_)
        rw [prW_put cI cL cM a _ hm6, prW_self cI cL cM a _ hm6] at hP hD
        have hP : va_P D vwCl (prW cI cL cM a k) H := hP
        have hD : va_D A (prW cI cL cM a k) := hD
        refine lv_imul hx hb dX3_mixture_42 ?_
        refine lv_iadd hx hb dX3_mixture_43 ?_
        refine lv_istore_n (lv' := [(1, .int ((sumP (k_w k) (k_g k) j) + (((o_we ((k_mo k) j)) (k_ph k).toNatClampNeg) * (o_gs ((k_mo k) j))))), (4, .int ((o_we ((k_mo k) j)) (k_ph k).toNatClampNeg)), (3, .int (nI j)), (2, .int (sumT (k_w k) j)), (0, .ref (a 7))]) hx hb dX3_mixture_44 rfl hl (by decide) rfl (fun ls hl => ?_)
        refine lv_iload_n hx hb dX3_mixture_45 rfl (lv_at hl 3 rfl) ?_
        refine lv_iload hx hb dX3_mixture_46 (lv_at hl 1 rfl) ?_
        refine lv_iadd hx hb dX3_mixture_48 ?_
        refine lv_istore_n (lv' := [(2, .int ((sumT (k_w k) j) + ((o_we ((k_mo k) j)) (k_ph k).toNatClampNeg))), (1, .int ((sumP (k_w k) (k_g k) j) + (((o_we ((k_mo k) j)) (k_ph k).toNatClampNeg) * (o_gs ((k_mo k) j))))), (4, .int ((o_we ((k_mo k) j)) (k_ph k).toNatClampNeg)), (3, .int (nI j)), (0, .ref (a 7))]) hx hb dX3_mixture_49 rfl hl (by decide) rfl (fun ls hl => ?_)
        refine lv_iinc (v := nI (j + 1)) (lv' := [(3, .int (nI (j + 1))), (2, .int ((sumT (k_w k) j) + ((o_we ((k_mo k) j)) (k_ph k).toNatClampNeg))), (1, .int ((sumP (k_w k) (k_g k) j) + (((o_we ((k_mo k) j)) (k_ph k).toNatClampNeg) * (o_gs ((k_mo k) j))))), (4, .int ((o_we ((k_mo k) j)) (k_ph k).toNatClampNeg)), (0, .ref (a 7))]) hx hb dX3_mixture_50 hl (k := 3) rfl (nI_1 _) (by decide) rfl (fun ls hl => ?_)
        refine lv_goto (tgt := 6) hx hb dX3_mixture_53 (by decide) ?_
        exact ih_lp6 (j + 1) (by omega) (by omega) _ _ hP hD hS ls (lv_sub hl [0, 2, 1, 4] rfl)
  exact lp6 _ 0 (Nat.zero_le _) (Nat.lt_succ_self _) _ _ hP hD hS ls (lv_sub hl [0, 2, 1, 3] rfl)

set_option maxHeartbeats 4000000 in
set_option maxRecDepth 100000 in
theorem c_X3_heaviest (l : Launch) (D : va_G) (cI cL cM : ClassId) (A : Nat → Prop) (a : Nat → Nat) (k : Pr) (hn6 : k_n k ≤ 6) (hph : vp_in (k_ph k) 8) : mI l yX3_heaviest wsX3_heaviest ({ frames := 0, cells := 0, slots := 0, locals := 0 }) D (tB cI cL cM) A [.ref (a 7)] (prW cI cL cM a k) ((hvy (k_w k) (k_n k)).1) (prW cI cL cM a k) := by
  refine Met.ofW (cc := cX3_heaviest) (maxL := 4) (ret := (some .int)) (by decide) rfl ?_
  intro p e s m args below meth c s₁ B hml hv
  obtain ⟨rfl, hP, hE, hD, hA⟩ := hv
  have hK := hE.1
  have hx := B.exec
  have hb := B.bytes
  have hr := B.returns
  have hts := atoms_spec (ws := wsX3_heaviest) B.pre
  have hown : s.vm.findClass RX3 = some m.cls := findClass_of_methodNamed B.named
  have hlocks := B.notSynchronized
  have hS : va_S A s.heap s.heap [] := va_S.rf
  have hl := lv_entry ([.ref (a 7)]) (n := 4) (Nat.le_of_ble_eq_true rfl)
  rw [lg_entry_eq]
  generalize (lg_sl ([.ref (a 7)]) ++ List.replicate (4 - (lg_sl ([.ref (a 7)])).length) Slot.unset).toArray = ls at hl ⊢
  have hl : lv_has ls 4 [(0, .ref (a 7))] := hl
  refine lv_iconst (v := (-1)) hx hb dX3_heaviest_0 (by decide) ?_
  refine lv_istore_n (lv' := [(1, .int (-1)), (0, .ref (a 7))]) hx hb dX3_heaviest_1 rfl hl (by decide) rfl (fun ls hl => ?_)
  refine lv_iconst (v := 0) hx hb dX3_heaviest_2 (by decide) ?_
  refine lv_istore_n (lv' := [(2, .int 0), (1, .int (-1)), (0, .ref (a 7))]) hx hb dX3_heaviest_3 rfl hl (by decide) rfl (fun ls hl => ?_)
  refine lv_iconst (v := 0) hx hb dX3_heaviest_4 (by decide) ?_
  refine lv_istore_n (lv' := [(3, .int 0), (2, .int 0), (1, .int (-1)), (0, .ref (a 7))]) hx hb dX3_heaviest_5 rfl hl (by decide) rfl (fun ls hl => ?_)
  have lp6 : ∀ (n9 : Nat) (j : Nat) (hj : j ≤ k_n k), k_n k - j < n9 → ∀ (H : Heap) (locs : List Loc), va_P D vwCl (prW cI cL cM a k) H → va_D A (prW cI cL cM a k) → va_S A s.heap H locs → ∀ (ls : Array Slot), lv_has ls 4 [(3, .int (nI j)), (1, .int ((hvy (k_w k) j).1)), (2, .int ((hvy (k_w k) j).2)), (0, .ref (a 7))] → W p l e (headSpec wsX3_heaviest ({ frames := 0, cells := 0, slots := 0, locals := 0 })).room s m (([.ref (a 7)] : List Value).toArray) below meth c H locs 0 0 (MQ below (va_Qi (fun x (_ : Unit) => x = ((hvy (k_w k) (k_n k)).1)) (fun _ t => hq D A (prW cI cL cM a k) t) A) (([.ref (a 7)] : List Value).toArray) s 0 0 A) (F0 m 6 ls []) := by
    intro n9
    induction n9 with
    | zero => intro j hj hm9; exact absurd hm9 (Nat.not_lt_zero _)
    | succ n9 ih_lp6 =>
      intro j hj hm9 H locs hP hD hS ls hl
      refine lv_iload_n hx hb dX3_heaviest_6 rfl (lv_at hl 0 rfl) ?_
      refine lv_aload_n hx hb dX3_heaviest_7 rfl (lv_at hl 3 rfl) ?_
      refine va_get (D := D) (ci := 3) (v := .int (nI (k_n k))) (C := RX3) (T := TX3) (N := 7) hx hb hts (fun _ h => List.mem_cons_of_mem _ (List.mem_append_left _ (List.mem_append_right _ h))) hown hK hP 0 rfl rfl 1 (by decide) (hts _ (List.mem_of_getElem? (i := 1) rfl)) (fun _ h9 => h9) rfl dX3_heaviest_8 ?_
      refine lv_icmp_ge (tgt := 55) hx hb dX3_heaviest_11 (by decide) (fun cj => ?_) (fun cj => ?_)
      · have cj : (nI (k_n k)) ≤ (nI j) := cj
        have hjn : j = k_n k := by have h8 := ge_N (by omega) (by omega) cj; omega
        refine lv_iload_n hx hb dX3_heaviest_55 rfl (lv_at hl 1 rfl) ?_
        exact W.iret (v := (hvy (k_w k) j).1) hx hb hr (fun t ht hW => ⟨⟨((hvy (k_w k) j).1), (), rfl, by rw [hjn], by rw [ht]; exact hP, hD⟩, hS.F ht⟩) hS.2.2 dX3_heaviest_56
      · have cj : ¬ (nI (k_n k)) ≤ (nI j) := cj
        have hjn : j < k_n k := nge_N (by omega) (by omega) cj
        have hm6 : j < 6 := by omega
        refine lv_aload_n hx hb dX3_heaviest_14 rfl (lv_at hl 3 rfl) ?_
        refine va_get (D := D) (ci := 3) (v := .ref (a 8)) (C := RX3) (T := TX3) (N := 7) hx hb hts (fun _ h => List.mem_cons_of_mem _ (List.mem_append_left _ (List.mem_append_right _ h))) hown hK hP 0 rfl rfl 0 (by decide) (hts _ (List.mem_of_getElem? (i := 2) rfl)) (fun _ h9 => h9) rfl dX3_heaviest_15 ?_
        refine lv_iload_n hx hb dX3_heaviest_18 rfl (lv_at hl 0 rfl) ?_
        refine aldN hx hb hK hP 1 2 rfl rfl j (hm6) (Nat.le_of_ble_eq_true rfl) rfl dX3_heaviest_19 ?_
        refine va_get (D := D) (ci := 2) (v := .ref (a (14 + 4 * j))) (C := RX2) (T := TX2) (N := 10) hx hb hts (fun _ h => List.mem_cons_of_mem _ (List.mem_append_right _ h)) hown hK hP (3 + 4 * j) (prW_o cI cL cM a _ hm6) rfl 5 (by decide) (hts _ (List.mem_of_getElem? (i := 3) rfl)) (fun _ h9 => h9) rfl dX3_heaviest_20 ?_
        refine lv_aload_n hx hb dX3_heaviest_23 rfl (lv_at hl 3 rfl) ?_
        refine va_get (D := D) (ci := 3) (v := .int (k_ph k)) (C := RX3) (T := TX3) (N := 7) hx hb hts (fun _ h => List.mem_cons_of_mem _ (List.mem_append_left _ (List.mem_append_right _ h))) hown hK hP 0 rfl rfl 4 (by decide) (hts _ (List.mem_of_getElem? (i := 4) rfl)) (fun _ h9 => h9) rfl dX3_heaviest_24 ?_
        refine va_iald hx hb hK hP (6 + 4 * j) 0 (prW_w cI cL cM a _ hm6) rfl (hph) dX3_heaviest_27 ?_
        refine lv_iload_n hx hb dX3_heaviest_28 rfl (lv_at hl 2 rfl) ?_
        refine lv_icmp_le (tgt := 49) hx hb dX3_heaviest_29 (by decide) (fun ch => ?_) (fun ch => ?_)
        · have ch : ((o_we ((k_mo k) j)) (k_ph k).toNatClampNeg) ≤ ((hvy (k_w k) j).2) := ch
          refine lv_iinc (v := nI (j + 1)) (lv' := [(3, .int (nI (j + 1))), (1, .int ((hvy (k_w k) j).1)), (2, .int ((hvy (k_w k) j).2)), (0, .ref (a 7))]) hx hb dX3_heaviest_49 hl (k := 0) rfl (nI_1 _) (by decide) rfl (fun ls hl => ?_)
          refine lv_goto (tgt := 6) hx hb dX3_heaviest_52 (by decide) ?_
          have e9 : hvy (k_w k) (j + 1) = hvy (k_w k) j := if_pos ch
          rw [← e9] at hl
          exact ih_lp6 (j + 1) (by omega) (by omega) _ _ hP hD hS ls (lv_sub hl [0, 1, 2, 3] rfl)
        · have ch : ¬ ((o_we ((k_mo k) j)) (k_ph k).toNatClampNeg) ≤ ((hvy (k_w k) j).2) := ch
          refine lv_iload_n hx hb dX3_heaviest_32 rfl (lv_at hl 0 rfl) ?_
          refine lv_istore_n (lv' := [(1, .int (nI j)), (3, .int (nI j)), (2, .int ((hvy (k_w k) j).2)), (0, .ref (a 7))]) hx hb dX3_heaviest_33 rfl hl (by decide) rfl (fun ls hl => ?_)
          refine lv_aload_n hx hb dX3_heaviest_34 rfl (lv_at hl 3 rfl) ?_
          refine va_get (D := D) (ci := 3) (v := .ref (a 8)) (C := RX3) (T := TX3) (N := 7) hx hb hts (fun _ h => List.mem_cons_of_mem _ (List.mem_append_left _ (List.mem_append_right _ h))) hown hK hP 0 rfl rfl 0 (by decide) (hts _ (List.mem_of_getElem? (i := 2) rfl)) (fun _ h9 => h9) rfl dX3_heaviest_35 ?_
          refine lv_iload_n hx hb dX3_heaviest_38 rfl (lv_at hl 1 rfl) ?_
          refine aldN hx hb hK hP 1 2 rfl rfl j (by omega) (Nat.le_of_ble_eq_true rfl) rfl dX3_heaviest_39 ?_
          refine va_get (D := D) (ci := 2) (v := .ref (a (14 + 4 * j))) (C := RX2) (T := TX2) (N := 10) hx hb hts (fun _ h => List.mem_cons_of_mem _ (List.mem_append_right _ h)) hown hK hP (3 + 4 * j) (prW_o cI cL cM a _ hm6) rfl 5 (by decide) (hts _ (List.mem_of_getElem? (i := 3) rfl)) (fun _ h9 => h9) rfl dX3_heaviest_40 ?_
          refine lv_aload_n hx hb dX3_heaviest_43 rfl (lv_at hl 3 rfl) ?_
          refine va_get (D := D) (ci := 3) (v := .int (k_ph k)) (C := RX3) (T := TX3) (N := 7) hx hb hts (fun _ h => List.mem_cons_of_mem _ (List.mem_append_left _ (List.mem_append_right _ h))) hown hK hP 0 rfl rfl 4 (by decide) (hts _ (List.mem_of_getElem? (i := 4) rfl)) (fun _ h9 => h9) rfl dX3_heaviest_44 ?_
          refine va_iald hx hb hK hP (6 + 4 * j) 0 (prW_w cI cL cM a _ hm6) rfl (hph) dX3_heaviest_47 ?_
          refine lv_istore_n (lv' := [(2, .int ((o_we ((k_mo k) j)) (k_ph k).toNatClampNeg)), (1, .int (nI j)), (3, .int (nI j)), (0, .ref (a 7))]) hx hb dX3_heaviest_48 rfl hl (by decide) rfl (fun ls hl => ?_)
          refine lv_iinc (v := nI (j + 1)) (lv' := [(3, .int (nI (j + 1))), (2, .int ((o_we ((k_mo k) j)) (k_ph k).toNatClampNeg)), (1, .int (nI j)), (0, .ref (a 7))]) hx hb dX3_heaviest_49 hl (k := 2) rfl (nI_1 _) (by decide) rfl (fun ls hl => ?_)
          refine lv_goto (tgt := 6) hx hb dX3_heaviest_52 (by decide) ?_
          have e9 : hvy (k_w k) (j + 1) = (nI j, k_w k j) := if_neg ch
          have hl : lv_has ls 4 [(3, .int (nI (j + 1))), (2, .int ((hvy (k_w k) (j + 1)).2)), (1, .int ((hvy (k_w k) (j + 1)).1)), (0, .ref (a 7))] := by rw [e9]; exact hl
          exact ih_lp6 (j + 1) (by omega) (by omega) _ _ hP hD hS ls (lv_sub hl [0, 2, 1, 3] rfl)
  exact lp6 _ 0 (Nat.zero_le _) (Nat.lt_succ_self _) _ _ hP hD hS ls (lv_sub hl [0, 2, 1, 3] rfl)

set_option maxHeartbeats 4000000 in
set_option maxRecDepth 100000 in
theorem c_X3_step (l : Launch) (D : va_G) (cI cL cM : ClassId) (A : Nat → Prop) (a : Nat → Nat) (k : Pr) (z : Int32) (hn6 : k_n k ≤ 6) (hnd : k_nd k < 256) : mV l yX3_step wsX3_step ({ frames := 2, cells := 0, slots := 0, locals := 44 }) D (tB cI cL cM) A [.ref (a 7), .int z] (prW cI cL cM a k) (prW cI cL cM a (k_st z k)) := by
  refine Met.ofW (cc := cX3_step) (maxL := 3) (ret := none) (by decide) rfl ?_
  intro p e s m args below meth c s₁ B hml hv
  obtain ⟨rfl, hP, hE, hD, hA⟩ := hv
  have hK := hE.1
  have hx := B.exec
  have hb := B.bytes
  have hr := B.returns
  have hts := atoms_spec (ws := wsX3_step) B.pre
  have hown : s.vm.findClass RX3 = some m.cls := findClass_of_methodNamed B.named
  have hlocks := B.notSynchronized
  have hS : va_S A s.heap s.heap [] := va_S.rf
  have hl := lv_entry ([.ref (a 7), .int z]) (n := 3) (Nat.le_of_ble_eq_true rfl)
  rw [lg_entry_eq]
  generalize (lg_sl ([.ref (a 7), .int z]) ++ List.replicate (3 - (lg_sl ([.ref (a 7), .int z])).length) Slot.unset).toArray = ls at hl ⊢
  have hl : lv_has ls 3 [(0, .ref (a 7)), (1, .int z)] := hl
  have hNT : (nI (2 * k_nd k + bz z)).toInt = ((2 * k_nd k + bz z : Nat) : Int) := nI_toInt (by have := bz_le z; omega)
  refine lv_aload_n hx hb dX3_step_0 rfl (lv_at hl 0 rfl) ?_
  refine lv_iconst (v := 2) hx hb dX3_step_1 (by decide) ?_
  refine lv_aload_n hx hb dX3_step_2 rfl (lv_at hl 0 rfl) ?_
  refine va_get (D := D) (ci := 3) (v := .int (nI (k_nd k))) (C := RX3) (T := TX3) (N := 7) hx hb hts (fun _ h => List.mem_cons_of_mem _ (List.mem_append_left _ (List.mem_append_right _ h))) hown hK hP 0 rfl rfl 3 (by decide) (hts _ (List.mem_of_getElem? (i := 1) rfl)) (fun _ h9 => h9) rfl dX3_step_3 ?_
  refine lv_imul hx hb dX3_step_6 ?_
  refine lv_iload_n hx hb dX3_step_7 rfl (lv_at hl 1 rfl) ?_
  refine lv_if_eq (tgt := 15) hx hb dX3_step_8 (by decide) (fun cz => ?_) (fun cz => ?_)
  · have cz : z = (0 : Int32) := cz
    refine lv_iconst (v := 0) hx hb dX3_step_15 (by decide) ?_
    refine lv_iadd hx hb dX3_step_16 ?_
    refine topI (y := nI (2 * k_nd k + bz z)) (by rw [bz_0 cz]; exact nd2 (k_nd k) 0) ?_
    refine va_put (D := D) (ci := 3) (v := .int (nI (2 * k_nd k + bz z))) (ty := .int) (C := RX3) (T := TX3) (N := 7) hx hb hts (fun _ h => List.mem_cons_of_mem _ (List.mem_append_left _ (List.mem_append_right _ h))) tyX3 tyX3_ok nmX3 hown hK hP hD hS 0 rfl rfl 3 (by decide) (hts _ (List.mem_of_getElem? (i := 1) rfl)) (fun _ h9 => h9) rfl (by decide +kernel) rfl rfl (Nat.le_of_ble_eq_true rfl) dX3_step_17 (fun H locs hP hD hS => ?_)
    have hP : va_P D vwCl (prW cI cL cM a (ks_nd k (2 * k_nd k + bz z))) H := hP
    have hD : va_D A (prW cI cL cM a (ks_nd k (2 * k_nd k + bz z))) := hD
    refine lv_aload_n hx hb dX3_step_20 rfl (lv_at hl 0 rfl) ?_
    refine lv_aload_n hx hb dX3_step_21 rfl (lv_at hl 0 rfl) ?_
    refine va_get (D := D) (ci := 3) (v := .int (k_ph k)) (C := RX3) (T := TX3) (N := 7) hx hb hts (fun _ h => List.mem_cons_of_mem _ (List.mem_append_left _ (List.mem_append_right _ h))) hown hK hP 0 rfl rfl 4 (by decide) (hts _ (List.mem_of_getElem? (i := 2) rfl)) (fun _ h9 => h9) rfl dX3_step_22 ?_
    refine lv_iconst (v := 1) hx hb dX3_step_25 (by decide) ?_
    refine lv_iadd hx hb dX3_step_26 ?_
    refine lv_bipush (v := 8) hx hb dX3_step_27 (by decide) ?_
    refine lv_irem hx hb dX3_step_29 (by decide) ?_
    refine va_put (D := D) (ci := 3) (v := .int (((k_ph k) + 1) - ((k_ph k) + 1) / 8 * 8)) (ty := .int) (C := RX3) (T := TX3) (N := 7) hx hb hts (fun _ h => List.mem_cons_of_mem _ (List.mem_append_left _ (List.mem_append_right _ h))) tyX3 tyX3_ok nmX3 hown hK hP hD hS 0 rfl rfl 4 (by decide) (hts _ (List.mem_of_getElem? (i := 2) rfl)) (fun _ h9 => h9) rfl (by decide +kernel) rfl rfl (Nat.le_of_ble_eq_true rfl) dX3_step_30 (fun H locs hP hD hS => ?_)
    have hP : va_P D vwCl (prW cI cL cM a (ks_ph (ks_nd k (2 * k_nd k + bz z)) (((k_ph k) + 1) - ((k_ph k) + 1) / 8 * 8))) H := hP
    have hD : va_D A (prW cI cL cM a (ks_ph (ks_nd k (2 * k_nd k + bz z)) (((k_ph k) + 1) - ((k_ph k) + 1) / 8 * 8))) := hD
    refine lv_aload_n hx hb dX3_step_33 rfl (lv_at hl 0 rfl) ?_
    refine va_get (D := D) (ci := 3) (v := .int (nI (2 * k_nd k + bz z))) (C := RX3) (T := TX3) (N := 7) hx hb hts (fun _ h => List.mem_cons_of_mem _ (List.mem_append_left _ (List.mem_append_right _ h))) hown hK hP 0 rfl rfl 3 (by decide) (hts _ (List.mem_of_getElem? (i := 1) rfl)) (fun _ h9 => h9) rfl dX3_step_34 ?_
    refine lv_sipush (v := 256) hx hb dX3_step_37 (by decide) ?_
    refine lv_icmp_lt (tgt := 92) hx hb dX3_step_40 (by decide) (fun c2 => ?_) (fun c2 => ?_)
    · have c2 : (nI (2 * k_nd k + bz z)) < (256 : Int32) := c2
      try simp only [Int32.lt_iff_toInt_lt, Int32.le_iff_toInt_le, tI0, hNT, tI256, tI2, tI256] at c2
      have hw9 : (prW cI cL cM a (ks_ph (ks_nd k (2 * k_nd k + bz z)) (((k_ph k) + 1) - ((k_ph k) + 1) / 8 * 8))) = (prW cI cL cM a (k_st z k)) := by unfold k_st; first | (rw [if_pos (by omega)]; rfl) | (rw [if_neg (by omega)]; rfl)
      rw [hw9] at hP hD
      exact W.vret hx hb hr (fun t ht hW => ⟨⟨(), rfl, trivial, by rw [ht]; exact hP, hD⟩, hS.F ht⟩) hS.2.2 dX3_step_92
    · have c2 : ¬ (nI (2 * k_nd k + bz z)) < (256 : Int32) := c2
      try simp only [Int32.lt_iff_toInt_lt, Int32.le_iff_toInt_le, tI0, hNT, tI256, tI2, tI256] at c2
      refine lv_iconst (v := 2) hx hb dX3_step_43 (by decide) ?_
      refine lv_istore_n (lv' := [(2, .int 2), (0, .ref (a 7)), (1, .int z)]) hx hb dX3_step_44 rfl hl (by decide) rfl (fun ls hl => ?_)
      refine lv_iload_n hx hb dX3_step_45 rfl (lv_at hl 0 rfl) ?_
      refine lv_if_le (tgt := 69) hx hb dX3_step_46 (by decide) (fun c_1 => absurd c_1 (by decide)) (fun c_1 => ?_)
      refine lv_aload_n hx hb dX3_step_49 rfl (lv_at hl 1 rfl) ?_
      refine va_get (D := D) (ci := 3) (v := .ref (a 9)) (C := RX3) (T := TX3) (N := 7) hx hb hts (fun _ h => List.mem_cons_of_mem _ (List.mem_append_left _ (List.mem_append_right _ h))) hown hK hP 0 rfl rfl 2 (by decide) (hts _ (List.mem_of_getElem? (i := 3) rfl)) (fun _ h9 => h9) rfl dX3_step_50 ?_
      refine lv_iload_n hx hb dX3_step_53 rfl (lv_at hl 0 rfl) ?_
      refine lv_aload_n hx hb dX3_step_54 rfl (lv_at hl 1 rfl) ?_
      refine va_get (D := D) (ci := 3) (v := .ref (a 9)) (C := RX3) (T := TX3) (N := 7) hx hb hts (fun _ h => List.mem_cons_of_mem _ (List.mem_append_left _ (List.mem_append_right _ h))) hown hK hP 0 rfl rfl 2 (by decide) (hts _ (List.mem_of_getElem? (i := 3) rfl)) (fun _ h9 => h9) rfl dX3_step_55 ?_
      refine lv_iload_n hx hb dX3_step_58 rfl (lv_at hl 0 rfl) ?_
      refine lv_iconst (v := 1) hx hb dX3_step_59 (by decide) ?_
      refine lv_isub hx hb dX3_step_60 ?_
      refine topI (y := 1) (by decide) ?_
      refine ildN hx hb hK hP 2 0 rfl rfl 1 (by decide) ((Nat.le_of_ble_eq_true rfl)) dX3_step_61 ?_
      refine istN hx hb hK hP hD hS 2 0 rfl rfl 2 (by decide) ((Nat.le_of_ble_eq_true rfl)) dX3_step_62 (fun H locs hP hD hS => ?_)
      have hP : va_P D vwCl (prW cI cL cM a (ks_ph (ks_nd (ks_la k (upd (k_la k) 2 ((k_la k) 1))) (2 * k_nd k + bz z)) (((k_ph k) + 1) - ((k_ph k) + 1) / 8 * 8))) H := hP
      have hD : va_D A (prW cI cL cM a (ks_ph (ks_nd (ks_la k (upd (k_la k) 2 ((k_la k) 1))) (2 * k_nd k + bz z)) (((k_ph k) + 1) - ((k_ph k) + 1) / 8 * 8))) := hD
      refine lv_iinc (v := 1) (lv' := [(2, .int 1), (0, .ref (a 7)), (1, .int z)]) hx hb dX3_step_63 hl (k := 0) rfl (by decide) (by decide) rfl (fun ls hl => ?_)
      refine lv_goto (tgt := 45) hx hb dX3_step_66 (by decide) ?_
      refine lv_iload_n hx hb dX3_step_45 rfl (lv_at hl 0 rfl) ?_
      refine lv_if_le (tgt := 69) hx hb dX3_step_46 (by decide) (fun c_2 => absurd c_2 (by decide)) (fun c_2 => ?_)
      refine lv_aload_n hx hb dX3_step_49 rfl (lv_at hl 1 rfl) ?_
      refine va_get (D := D) (ci := 3) (v := .ref (a 9)) (C := RX3) (T := TX3) (N := 7) hx hb hts (fun _ h => List.mem_cons_of_mem _ (List.mem_append_left _ (List.mem_append_right _ h))) hown hK hP 0 rfl rfl 2 (by decide) (hts _ (List.mem_of_getElem? (i := 3) rfl)) (fun _ h9 => h9) rfl dX3_step_50 ?_
      refine lv_iload_n hx hb dX3_step_53 rfl (lv_at hl 0 rfl) ?_
      refine lv_aload_n hx hb dX3_step_54 rfl (lv_at hl 1 rfl) ?_
      refine va_get (D := D) (ci := 3) (v := .ref (a 9)) (C := RX3) (T := TX3) (N := 7) hx hb hts (fun _ h => List.mem_cons_of_mem _ (List.mem_append_left _ (List.mem_append_right _ h))) hown hK hP 0 rfl rfl 2 (by decide) (hts _ (List.mem_of_getElem? (i := 3) rfl)) (fun _ h9 => h9) rfl dX3_step_55 ?_
      refine lv_iload_n hx hb dX3_step_58 rfl (lv_at hl 0 rfl) ?_
      refine lv_iconst (v := 1) hx hb dX3_step_59 (by decide) ?_
      refine lv_isub hx hb dX3_step_60 ?_
      refine topI (y := 0) (by decide) ?_
      refine ildN hx hb hK hP 2 0 rfl rfl 0 (by decide) ((Nat.le_of_ble_eq_true rfl)) dX3_step_61 ?_
      refine istN hx hb hK hP hD hS 2 0 rfl rfl 1 (by decide) ((Nat.le_of_ble_eq_true rfl)) dX3_step_62 (fun H locs hP hD hS => ?_)
      have hP : va_P D vwCl (prW cI cL cM a (ks_ph (ks_nd (ks_la k (upd (upd (k_la k) 2 ((k_la k) 1)) 1 ((upd (k_la k) 2 ((k_la k) 1)) 0))) (2 * k_nd k + bz z)) (((k_ph k) + 1) - ((k_ph k) + 1) / 8 * 8))) H := hP
      have hD : va_D A (prW cI cL cM a (ks_ph (ks_nd (ks_la k (upd (upd (k_la k) 2 ((k_la k) 1)) 1 ((upd (k_la k) 2 ((k_la k) 1)) 0))) (2 * k_nd k + bz z)) (((k_ph k) + 1) - ((k_ph k) + 1) / 8 * 8))) := hD
      refine lv_iinc (v := 0) (lv' := [(2, .int 0), (0, .ref (a 7)), (1, .int z)]) hx hb dX3_step_63 hl (k := 0) rfl (by decide) (by decide) rfl (fun ls hl => ?_)
      refine lv_goto (tgt := 45) hx hb dX3_step_66 (by decide) ?_
      refine lv_iload_n hx hb dX3_step_45 rfl (lv_at hl 0 rfl) ?_
      refine lv_if_le (tgt := 69) hx hb dX3_step_46 (by decide) (fun c_3 => ?_) (fun c_3 => absurd (by decide) c_3)
      refine lv_aload_n hx hb dX3_step_69 rfl (lv_at hl 1 rfl) ?_
      refine va_get (D := D) (ci := 3) (v := .ref (a 9)) (C := RX3) (T := TX3) (N := 7) hx hb hts (fun _ h => List.mem_cons_of_mem _ (List.mem_append_left _ (List.mem_append_right _ h))) hown hK hP 0 rfl rfl 2 (by decide) (hts _ (List.mem_of_getElem? (i := 3) rfl)) (fun _ h9 => h9) rfl dX3_step_70 ?_
      refine lv_iconst (v := 0) hx hb dX3_step_73 (by decide) ?_
      refine lv_aload_n hx hb dX3_step_74 rfl (lv_at hl 1 rfl) ?_
      refine va_get (D := D) (ci := 3) (v := .int (nI (2 * k_nd k + bz z))) (C := RX3) (T := TX3) (N := 7) hx hb hts (fun _ h => List.mem_cons_of_mem _ (List.mem_append_left _ (List.mem_append_right _ h))) hown hK hP 0 rfl rfl 3 (by decide) (hts _ (List.mem_of_getElem? (i := 1) rfl)) (fun _ h9 => h9) rfl dX3_step_75 ?_
      refine lv_sipush (v := 256) hx hb dX3_step_78 (by decide) ?_
      refine lv_isub hx hb dX3_step_81 ?_
      refine istN hx hb hK hP hD hS 2 0 rfl rfl 0 (by decide) ((Nat.le_of_ble_eq_true rfl)) dX3_step_82 (fun H locs hP hD hS => ?_)
      have hP : va_P D vwCl (prW cI cL cM a (ks_ph (ks_nd (ks_la k (upd (upd (upd (k_la k) 2 ((k_la k) 1)) 1 ((upd (k_la k) 2 ((k_la k) 1)) 0)) 0 ((nI (2 * k_nd k + bz z)) - 256))) (2 * k_nd k + bz z)) (((k_ph k) + 1) - ((k_ph k) + 1) / 8 * 8))) H := hP
      have hD : va_D A (prW cI cL cM a (ks_ph (ks_nd (ks_la k (upd (upd (upd (k_la k) 2 ((k_la k) 1)) 1 ((upd (k_la k) 2 ((k_la k) 1)) 0)) 0 ((nI (2 * k_nd k + bz z)) - 256))) (2 * k_nd k + bz z)) (((k_ph k) + 1) - ((k_ph k) + 1) / 8 * 8))) := hD
      refine lv_aload_n hx hb dX3_step_83 rfl (lv_at hl 1 rfl) ?_
      refine lv_iconst (v := 1) hx hb dX3_step_84 (by decide) ?_
      refine va_put (D := D) (ci := 3) (v := .int 1) (ty := .int) (C := RX3) (T := TX3) (N := 7) hx hb hts (fun _ h => List.mem_cons_of_mem _ (List.mem_append_left _ (List.mem_append_right _ h))) tyX3 tyX3_ok nmX3 hown hK hP hD hS 0 rfl rfl 3 (by decide) (hts _ (List.mem_of_getElem? (i := 1) rfl)) (fun _ h9 => h9) rfl (by decide +kernel) rfl rfl (Nat.le_of_ble_eq_true rfl) dX3_step_85 (fun H locs hP hD hS => ?_)
      have hP : va_P D vwCl (prW cI cL cM a (ks_ph (ks_nd (ks_la k (upd (upd (upd (k_la k) 2 ((k_la k) 1)) 1 ((upd (k_la k) 2 ((k_la k) 1)) 0)) 0 ((nI (2 * k_nd k + bz z)) - 256))) 1) (((k_ph k) + 1) - ((k_ph k) + 1) / 8 * 8))) H := hP
      have hD : va_D A (prW cI cL cM a (ks_ph (ks_nd (ks_la k (upd (upd (upd (k_la k) 2 ((k_la k) 1)) 1 ((upd (k_la k) 2 ((k_la k) 1)) 0)) 0 ((nI (2 * k_nd k + bz z)) - 256))) 1) (((k_ph k) + 1) - ((k_ph k) + 1) / 8 * 8))) := hD
      refine lv_aload_n hx hb dX3_step_88 rfl (lv_at hl 1 rfl) ?_
      refine kVa (rVa (As := []) (rest := []) ⟨hx, hb, hml, hown, hts⟩ (c_X3_readContexts l D cI cL cM _ a (ks_ph (ks_nd (ks_la k (upd (upd (upd (k_la k) 2 ((k_la k) 1)) 1 ((upd (k_la k) 2 ((k_la k) 1)) 0)) 0 ((nI (2 * k_nd k + bz z)) - 256))) 1) (((k_ph k) + 1) - ((k_ph k) + 1) / 8 * 8))  hn6) (cwV 0 hts gX3_step_X3_readContexts rfl rfl rfl (by decide +kernel) ⟨(Nat.le_of_ble_eq_true rfl), (Nat.le_of_ble_eq_true rfl)⟩) hE hP hD hS hA 0 rfl rfl rfl hl.1 rfl (Nat.le_of_ble_eq_true rfl) dX3_step_89 ⟨(Nat.le_of_ble_eq_true rfl), (Nat.le_of_ble_eq_true rfl)⟩) hS (fun H locs hP hD hS => ?_)
      have hP : va_P D vwCl (prW cI cL cM a (k_rc (ks_ph (ks_nd (ks_la k (upd (upd (upd (k_la k) 2 ((k_la k) 1)) 1 ((upd (k_la k) 2 ((k_la k) 1)) 0)) 0 ((nI (2 * k_nd k + bz z)) - 256))) 1) (((k_ph k) + 1) - ((k_ph k) + 1) / 8 * 8)))) H := hP
      have hD : va_D A (prW cI cL cM a (k_rc (ks_ph (ks_nd (ks_la k (upd (upd (upd (k_la k) 2 ((k_la k) 1)) 1 ((upd (k_la k) 2 ((k_la k) 1)) 0)) 0 ((nI (2 * k_nd k + bz z)) - 256))) 1) (((k_ph k) + 1) - ((k_ph k) + 1) / 8 * 8)))) := hD
      have hw9 : (prW cI cL cM a (k_rc (ks_ph (ks_nd (ks_la k (upd (upd (upd (k_la k) 2 ((k_la k) 1)) 1 ((upd (k_la k) 2 ((k_la k) 1)) 0)) 0 ((nI (2 * k_nd k + bz z)) - 256))) 1) (((k_ph k) + 1) - ((k_ph k) + 1) / 8 * 8)))) = (prW cI cL cM a (k_st z k)) := by unfold k_st; first | (rw [if_pos (by omega)]; rfl) | (rw [if_neg (by omega)]; rfl)
      rw [hw9] at hP hD
      exact W.vret hx hb hr (fun t ht hW => ⟨⟨(), rfl, trivial, by rw [ht]; exact hP, hD⟩, hS.F ht⟩) hS.2.2 dX3_step_92
  · have cz : ¬ z = (0 : Int32) := cz
    refine lv_iconst (v := 1) hx hb dX3_step_11 (by decide) ?_
    refine lv_goto (tgt := 16) hx hb dX3_step_12 (by decide) ?_
    refine lv_iadd hx hb dX3_step_16 ?_
    refine topI (y := nI (2 * k_nd k + bz z)) (by rw [bz_1 cz]; exact nd2 (k_nd k) 1) ?_
    refine va_put (D := D) (ci := 3) (v := .int (nI (2 * k_nd k + bz z))) (ty := .int) (C := RX3) (T := TX3) (N := 7) hx hb hts (fun _ h => List.mem_cons_of_mem _ (List.mem_append_left _ (List.mem_append_right _ h))) tyX3 tyX3_ok nmX3 hown hK hP hD hS 0 rfl rfl 3 (by decide) (hts _ (List.mem_of_getElem? (i := 1) rfl)) (fun _ h9 => h9) rfl (by decide +kernel) rfl rfl (Nat.le_of_ble_eq_true rfl) dX3_step_17 (fun H locs hP hD hS => ?_)
    have hP : va_P D vwCl (prW cI cL cM a (ks_nd k (2 * k_nd k + bz z))) H := hP
    have hD : va_D A (prW cI cL cM a (ks_nd k (2 * k_nd k + bz z))) := hD
    refine lv_aload_n hx hb dX3_step_20 rfl (lv_at hl 0 rfl) ?_
    refine lv_aload_n hx hb dX3_step_21 rfl (lv_at hl 0 rfl) ?_
    refine va_get (D := D) (ci := 3) (v := .int (k_ph k)) (C := RX3) (T := TX3) (N := 7) hx hb hts (fun _ h => List.mem_cons_of_mem _ (List.mem_append_left _ (List.mem_append_right _ h))) hown hK hP 0 rfl rfl 4 (by decide) (hts _ (List.mem_of_getElem? (i := 2) rfl)) (fun _ h9 => h9) rfl dX3_step_22 ?_
    refine lv_iconst (v := 1) hx hb dX3_step_25 (by decide) ?_
    refine lv_iadd hx hb dX3_step_26 ?_
    refine lv_bipush (v := 8) hx hb dX3_step_27 (by decide) ?_
    refine lv_irem hx hb dX3_step_29 (by decide) ?_
    refine va_put (D := D) (ci := 3) (v := .int (((k_ph k) + 1) - ((k_ph k) + 1) / 8 * 8)) (ty := .int) (C := RX3) (T := TX3) (N := 7) hx hb hts (fun _ h => List.mem_cons_of_mem _ (List.mem_append_left _ (List.mem_append_right _ h))) tyX3 tyX3_ok nmX3 hown hK hP hD hS 0 rfl rfl 4 (by decide) (hts _ (List.mem_of_getElem? (i := 2) rfl)) (fun _ h9 => h9) rfl (by decide +kernel) rfl rfl (Nat.le_of_ble_eq_true rfl) dX3_step_30 (fun H locs hP hD hS => ?_)
    have hP : va_P D vwCl (prW cI cL cM a (ks_ph (ks_nd k (2 * k_nd k + bz z)) (((k_ph k) + 1) - ((k_ph k) + 1) / 8 * 8))) H := hP
    have hD : va_D A (prW cI cL cM a (ks_ph (ks_nd k (2 * k_nd k + bz z)) (((k_ph k) + 1) - ((k_ph k) + 1) / 8 * 8))) := hD
    refine lv_aload_n hx hb dX3_step_33 rfl (lv_at hl 0 rfl) ?_
    refine va_get (D := D) (ci := 3) (v := .int (nI (2 * k_nd k + bz z))) (C := RX3) (T := TX3) (N := 7) hx hb hts (fun _ h => List.mem_cons_of_mem _ (List.mem_append_left _ (List.mem_append_right _ h))) hown hK hP 0 rfl rfl 3 (by decide) (hts _ (List.mem_of_getElem? (i := 1) rfl)) (fun _ h9 => h9) rfl dX3_step_34 ?_
    refine lv_sipush (v := 256) hx hb dX3_step_37 (by decide) ?_
    refine lv_icmp_lt (tgt := 92) hx hb dX3_step_40 (by decide) (fun c2 => ?_) (fun c2 => ?_)
    · have c2 : (nI (2 * k_nd k + bz z)) < (256 : Int32) := c2
      try simp only [Int32.lt_iff_toInt_lt, Int32.le_iff_toInt_le, tI0, hNT, tI256, tI2, tI256] at c2
      have hw9 : (prW cI cL cM a (ks_ph (ks_nd k (2 * k_nd k + bz z)) (((k_ph k) + 1) - ((k_ph k) + 1) / 8 * 8))) = (prW cI cL cM a (k_st z k)) := by unfold k_st; first | (rw [if_pos (by omega)]; rfl) | (rw [if_neg (by omega)]; rfl)
      rw [hw9] at hP hD
      exact W.vret hx hb hr (fun t ht hW => ⟨⟨(), rfl, trivial, by rw [ht]; exact hP, hD⟩, hS.F ht⟩) hS.2.2 dX3_step_92
    · have c2 : ¬ (nI (2 * k_nd k + bz z)) < (256 : Int32) := c2
      try simp only [Int32.lt_iff_toInt_lt, Int32.le_iff_toInt_le, tI0, hNT, tI256, tI2, tI256] at c2
      refine lv_iconst (v := 2) hx hb dX3_step_43 (by decide) ?_
      refine lv_istore_n (lv' := [(2, .int 2), (0, .ref (a 7)), (1, .int z)]) hx hb dX3_step_44 rfl hl (by decide) rfl (fun ls hl => ?_)
      refine lv_iload_n hx hb dX3_step_45 rfl (lv_at hl 0 rfl) ?_
      refine lv_if_le (tgt := 69) hx hb dX3_step_46 (by decide) (fun c_4 => absurd c_4 (by decide)) (fun c_4 => ?_)
      refine lv_aload_n hx hb dX3_step_49 rfl (lv_at hl 1 rfl) ?_
      refine va_get (D := D) (ci := 3) (v := .ref (a 9)) (C := RX3) (T := TX3) (N := 7) hx hb hts (fun _ h => List.mem_cons_of_mem _ (List.mem_append_left _ (List.mem_append_right _ h))) hown hK hP 0 rfl rfl 2 (by decide) (hts _ (List.mem_of_getElem? (i := 3) rfl)) (fun _ h9 => h9) rfl dX3_step_50 ?_
      refine lv_iload_n hx hb dX3_step_53 rfl (lv_at hl 0 rfl) ?_
      refine lv_aload_n hx hb dX3_step_54 rfl (lv_at hl 1 rfl) ?_
      refine va_get (D := D) (ci := 3) (v := .ref (a 9)) (C := RX3) (T := TX3) (N := 7) hx hb hts (fun _ h => List.mem_cons_of_mem _ (List.mem_append_left _ (List.mem_append_right _ h))) hown hK hP 0 rfl rfl 2 (by decide) (hts _ (List.mem_of_getElem? (i := 3) rfl)) (fun _ h9 => h9) rfl dX3_step_55 ?_
      refine lv_iload_n hx hb dX3_step_58 rfl (lv_at hl 0 rfl) ?_
      refine lv_iconst (v := 1) hx hb dX3_step_59 (by decide) ?_
      refine lv_isub hx hb dX3_step_60 ?_
      refine topI (y := 1) (by decide) ?_
      refine ildN hx hb hK hP 2 0 rfl rfl 1 (by decide) ((Nat.le_of_ble_eq_true rfl)) dX3_step_61 ?_
      refine istN hx hb hK hP hD hS 2 0 rfl rfl 2 (by decide) ((Nat.le_of_ble_eq_true rfl)) dX3_step_62 (fun H locs hP hD hS => ?_)
      have hP : va_P D vwCl (prW cI cL cM a (ks_ph (ks_nd (ks_la k (upd (k_la k) 2 ((k_la k) 1))) (2 * k_nd k + bz z)) (((k_ph k) + 1) - ((k_ph k) + 1) / 8 * 8))) H := hP
      have hD : va_D A (prW cI cL cM a (ks_ph (ks_nd (ks_la k (upd (k_la k) 2 ((k_la k) 1))) (2 * k_nd k + bz z)) (((k_ph k) + 1) - ((k_ph k) + 1) / 8 * 8))) := hD
      refine lv_iinc (v := 1) (lv' := [(2, .int 1), (0, .ref (a 7)), (1, .int z)]) hx hb dX3_step_63 hl (k := 0) rfl (by decide) (by decide) rfl (fun ls hl => ?_)
      refine lv_goto (tgt := 45) hx hb dX3_step_66 (by decide) ?_
      refine lv_iload_n hx hb dX3_step_45 rfl (lv_at hl 0 rfl) ?_
      refine lv_if_le (tgt := 69) hx hb dX3_step_46 (by decide) (fun c_5 => absurd c_5 (by decide)) (fun c_5 => ?_)
      refine lv_aload_n hx hb dX3_step_49 rfl (lv_at hl 1 rfl) ?_
      refine va_get (D := D) (ci := 3) (v := .ref (a 9)) (C := RX3) (T := TX3) (N := 7) hx hb hts (fun _ h => List.mem_cons_of_mem _ (List.mem_append_left _ (List.mem_append_right _ h))) hown hK hP 0 rfl rfl 2 (by decide) (hts _ (List.mem_of_getElem? (i := 3) rfl)) (fun _ h9 => h9) rfl dX3_step_50 ?_
      refine lv_iload_n hx hb dX3_step_53 rfl (lv_at hl 0 rfl) ?_
      refine lv_aload_n hx hb dX3_step_54 rfl (lv_at hl 1 rfl) ?_
      refine va_get (D := D) (ci := 3) (v := .ref (a 9)) (C := RX3) (T := TX3) (N := 7) hx hb hts (fun _ h => List.mem_cons_of_mem _ (List.mem_append_left _ (List.mem_append_right _ h))) hown hK hP 0 rfl rfl 2 (by decide) (hts _ (List.mem_of_getElem? (i := 3) rfl)) (fun _ h9 => h9) rfl dX3_step_55 ?_
      refine lv_iload_n hx hb dX3_step_58 rfl (lv_at hl 0 rfl) ?_
      refine lv_iconst (v := 1) hx hb dX3_step_59 (by decide) ?_
      refine lv_isub hx hb dX3_step_60 ?_
      refine topI (y := 0) (by decide) ?_
      refine ildN hx hb hK hP 2 0 rfl rfl 0 (by decide) ((Nat.le_of_ble_eq_true rfl)) dX3_step_61 ?_
      refine istN hx hb hK hP hD hS 2 0 rfl rfl 1 (by decide) ((Nat.le_of_ble_eq_true rfl)) dX3_step_62 (fun H locs hP hD hS => ?_)
      have hP : va_P D vwCl (prW cI cL cM a (ks_ph (ks_nd (ks_la k (upd (upd (k_la k) 2 ((k_la k) 1)) 1 ((upd (k_la k) 2 ((k_la k) 1)) 0))) (2 * k_nd k + bz z)) (((k_ph k) + 1) - ((k_ph k) + 1) / 8 * 8))) H := hP
      have hD : va_D A (prW cI cL cM a (ks_ph (ks_nd (ks_la k (upd (upd (k_la k) 2 ((k_la k) 1)) 1 ((upd (k_la k) 2 ((k_la k) 1)) 0))) (2 * k_nd k + bz z)) (((k_ph k) + 1) - ((k_ph k) + 1) / 8 * 8))) := hD
      refine lv_iinc (v := 0) (lv' := [(2, .int 0), (0, .ref (a 7)), (1, .int z)]) hx hb dX3_step_63 hl (k := 0) rfl (by decide) (by decide) rfl (fun ls hl => ?_)
      refine lv_goto (tgt := 45) hx hb dX3_step_66 (by decide) ?_
      refine lv_iload_n hx hb dX3_step_45 rfl (lv_at hl 0 rfl) ?_
      refine lv_if_le (tgt := 69) hx hb dX3_step_46 (by decide) (fun c_6 => ?_) (fun c_6 => absurd (by decide) c_6)
      refine lv_aload_n hx hb dX3_step_69 rfl (lv_at hl 1 rfl) ?_
      refine va_get (D := D) (ci := 3) (v := .ref (a 9)) (C := RX3) (T := TX3) (N := 7) hx hb hts (fun _ h => List.mem_cons_of_mem _ (List.mem_append_left _ (List.mem_append_right _ h))) hown hK hP 0 rfl rfl 2 (by decide) (hts _ (List.mem_of_getElem? (i := 3) rfl)) (fun _ h9 => h9) rfl dX3_step_70 ?_
      refine lv_iconst (v := 0) hx hb dX3_step_73 (by decide) ?_
      refine lv_aload_n hx hb dX3_step_74 rfl (lv_at hl 1 rfl) ?_
      refine va_get (D := D) (ci := 3) (v := .int (nI (2 * k_nd k + bz z))) (C := RX3) (T := TX3) (N := 7) hx hb hts (fun _ h => List.mem_cons_of_mem _ (List.mem_append_left _ (List.mem_append_right _ h))) hown hK hP 0 rfl rfl 3 (by decide) (hts _ (List.mem_of_getElem? (i := 1) rfl)) (fun _ h9 => h9) rfl dX3_step_75 ?_
      refine lv_sipush (v := 256) hx hb dX3_step_78 (by decide) ?_
      refine lv_isub hx hb dX3_step_81 ?_
      refine istN hx hb hK hP hD hS 2 0 rfl rfl 0 (by decide) ((Nat.le_of_ble_eq_true rfl)) dX3_step_82 (fun H locs hP hD hS => ?_)
      have hP : va_P D vwCl (prW cI cL cM a (ks_ph (ks_nd (ks_la k (upd (upd (upd (k_la k) 2 ((k_la k) 1)) 1 ((upd (k_la k) 2 ((k_la k) 1)) 0)) 0 ((nI (2 * k_nd k + bz z)) - 256))) (2 * k_nd k + bz z)) (((k_ph k) + 1) - ((k_ph k) + 1) / 8 * 8))) H := hP
      have hD : va_D A (prW cI cL cM a (ks_ph (ks_nd (ks_la k (upd (upd (upd (k_la k) 2 ((k_la k) 1)) 1 ((upd (k_la k) 2 ((k_la k) 1)) 0)) 0 ((nI (2 * k_nd k + bz z)) - 256))) (2 * k_nd k + bz z)) (((k_ph k) + 1) - ((k_ph k) + 1) / 8 * 8))) := hD
      refine lv_aload_n hx hb dX3_step_83 rfl (lv_at hl 1 rfl) ?_
      refine lv_iconst (v := 1) hx hb dX3_step_84 (by decide) ?_
      refine va_put (D := D) (ci := 3) (v := .int 1) (ty := .int) (C := RX3) (T := TX3) (N := 7) hx hb hts (fun _ h => List.mem_cons_of_mem _ (List.mem_append_left _ (List.mem_append_right _ h))) tyX3 tyX3_ok nmX3 hown hK hP hD hS 0 rfl rfl 3 (by decide) (hts _ (List.mem_of_getElem? (i := 1) rfl)) (fun _ h9 => h9) rfl (by decide +kernel) rfl rfl (Nat.le_of_ble_eq_true rfl) dX3_step_85 (fun H locs hP hD hS => ?_)
      have hP : va_P D vwCl (prW cI cL cM a (ks_ph (ks_nd (ks_la k (upd (upd (upd (k_la k) 2 ((k_la k) 1)) 1 ((upd (k_la k) 2 ((k_la k) 1)) 0)) 0 ((nI (2 * k_nd k + bz z)) - 256))) 1) (((k_ph k) + 1) - ((k_ph k) + 1) / 8 * 8))) H := hP
      have hD : va_D A (prW cI cL cM a (ks_ph (ks_nd (ks_la k (upd (upd (upd (k_la k) 2 ((k_la k) 1)) 1 ((upd (k_la k) 2 ((k_la k) 1)) 0)) 0 ((nI (2 * k_nd k + bz z)) - 256))) 1) (((k_ph k) + 1) - ((k_ph k) + 1) / 8 * 8))) := hD
      refine lv_aload_n hx hb dX3_step_88 rfl (lv_at hl 1 rfl) ?_
      refine kVa (rVa (As := []) (rest := []) ⟨hx, hb, hml, hown, hts⟩ (c_X3_readContexts l D cI cL cM _ a (ks_ph (ks_nd (ks_la k (upd (upd (upd (k_la k) 2 ((k_la k) 1)) 1 ((upd (k_la k) 2 ((k_la k) 1)) 0)) 0 ((nI (2 * k_nd k + bz z)) - 256))) 1) (((k_ph k) + 1) - ((k_ph k) + 1) / 8 * 8))  hn6) (cwV 0 hts gX3_step_X3_readContexts rfl rfl rfl (by decide +kernel) ⟨(Nat.le_of_ble_eq_true rfl), (Nat.le_of_ble_eq_true rfl)⟩) hE hP hD hS hA 0 rfl rfl rfl hl.1 rfl (Nat.le_of_ble_eq_true rfl) dX3_step_89 ⟨(Nat.le_of_ble_eq_true rfl), (Nat.le_of_ble_eq_true rfl)⟩) hS (fun H locs hP hD hS => ?_)
      have hP : va_P D vwCl (prW cI cL cM a (k_rc (ks_ph (ks_nd (ks_la k (upd (upd (upd (k_la k) 2 ((k_la k) 1)) 1 ((upd (k_la k) 2 ((k_la k) 1)) 0)) 0 ((nI (2 * k_nd k + bz z)) - 256))) 1) (((k_ph k) + 1) - ((k_ph k) + 1) / 8 * 8)))) H := hP
      have hD : va_D A (prW cI cL cM a (k_rc (ks_ph (ks_nd (ks_la k (upd (upd (upd (k_la k) 2 ((k_la k) 1)) 1 ((upd (k_la k) 2 ((k_la k) 1)) 0)) 0 ((nI (2 * k_nd k + bz z)) - 256))) 1) (((k_ph k) + 1) - ((k_ph k) + 1) / 8 * 8)))) := hD
      have hw9 : (prW cI cL cM a (k_rc (ks_ph (ks_nd (ks_la k (upd (upd (upd (k_la k) 2 ((k_la k) 1)) 1 ((upd (k_la k) 2 ((k_la k) 1)) 0)) 0 ((nI (2 * k_nd k + bz z)) - 256))) 1) (((k_ph k) + 1) - ((k_ph k) + 1) / 8 * 8)))) = (prW cI cL cM a (k_st z k)) := by unfold k_st; first | (rw [if_pos (by omega)]; rfl) | (rw [if_neg (by omega)]; rfl)
      rw [hw9] at hP hD
      exact W.vret hx hb hr (fun t ht hW => ⟨⟨(), rfl, trivial, by rw [ht]; exact hP, hD⟩, hS.F ht⟩) hS.2.2 dX3_step_92

set_option maxHeartbeats 4000000 in
set_option maxRecDepth 100000 in
theorem c_X3_learn (l : Launch) (D : va_G) (cI cL cM : ClassId) (A : Nat → Prop) (a : Nat → Nat) (k : Pr) (z mx : Int32) (hn6 : k_n k ≤ 6) (hnd : k_nd k < 256) (hph : vp_in (k_ph k) 8) (hpl : ∀ j, j < k_n k → vp_in (o_pl (k_mo k j)) 512) : mV l yX3_learn wsX3_learn ({ frames := 4, cells := 0, slots := 0, locals := 86 }) D (tB cI cL cM) A [.ref (a 7), .int z, .int mx] (prW cI cL cM a k) (prW cI cL cM a (k_ln z mx k)) := by
  refine Met.ofW (cc := cX3_learn) (maxL := 5) (ret := none) (by decide) rfl ?_
  intro p e s m args below meth c s₁ B hml hv
  obtain ⟨rfl, hP, hE, hD, hA⟩ := hv
  have hK := hE.1
  have hx := B.exec
  have hb := B.bytes
  have hr := B.returns
  have hts := atoms_spec (ws := wsX3_learn) B.pre
  have hown : s.vm.findClass RX3 = some m.cls := findClass_of_methodNamed B.named
  have hlocks := B.notSynchronized
  have hS : va_S A s.heap s.heap [] := va_S.rf
  have hl := lv_entry ([.ref (a 7), .int z, .int mx]) (n := 5) (Nat.le_of_ble_eq_true rfl)
  rw [lg_entry_eq]
  generalize (lg_sl ([.ref (a 7), .int z, .int mx]) ++ List.replicate (5 - (lg_sl ([.ref (a 7), .int z, .int mx])).length) Slot.unset).toArray = ls at hl ⊢
  have hl : lv_has ls 5 [(0, .ref (a 7)), (1, .int z), (2, .int mx)] := hl
  refine lv_iload_n hx hb dX3_learn_0 rfl (lv_at hl 2 rfl) ?_
  refine lv_iload_n hx hb dX3_learn_1 rfl (lv_at hl 1 rfl) ?_
  refine kI (rSN (As := [.int mx, .int z]) (rest := []) ⟨hx, hb, hml, hown, hts⟩ (c_X4_quality l D cI cL cM _ mx z ) ⟨va_cnB 2 hts gX3_learn_X4_quality_n85 rfl rfl rfl hE.2.2 (hts _ (List.mem_of_getElem? (i := 7) rfl)) (by decide +kernel) ⟨(Nat.le_of_ble_eq_true rfl), (Nat.le_of_ble_eq_true rfl)⟩, (hts _ (List.mem_of_getElem? (i := 6) rfl)), trivial⟩ hE hP hD [] rfl rfl rfl hl.1 rfl (Nat.le_of_ble_eq_true rfl) dX3_learn_2 ⟨(Nat.le_of_ble_eq_true rfl), (Nat.le_of_ble_eq_true rfl)⟩) hP hD hS hA (is := []) rfl rfl (fun H locs hP hD hS => ?_)
  rw [putW_nil] at hP hD
  have hP : va_P D vwCl (prW cI cL cM a k) H := hP
  have hD : va_D A (prW cI cL cM a k) := hD
  refine lv_istore_n (lv' := [(3, .int (qual mx z)), (0, .ref (a 7)), (1, .int z), (2, .int mx)]) hx hb dX3_learn_5 rfl hl (by decide) rfl (fun ls hl => ?_)
  refine lv_aload_n hx hb dX3_learn_6 rfl (lv_at hl 1 rfl) ?_
  refine lv_dup hx hb dX3_learn_7 rfl ?_
  refine va_get (D := D) (ci := 3) (v := .long (k_er k)) (C := RX3) (T := TX3) (N := 7) hx hb hts (fun _ h => List.mem_cons_of_mem _ (List.mem_append_left _ (List.mem_append_right _ h))) hown hK hP 0 rfl rfl 6 (by decide) (hts _ (List.mem_of_getElem? (i := 1) rfl)) (fun _ h9 => h9) rfl dX3_learn_8 ?_
  refine lv_sipush (v := 4096) hx hb dX3_learn_11 (by decide) ?_
  refine lv_iload_n hx hb dX3_learn_14 rfl (lv_at hl 0 rfl) ?_
  refine lv_isub hx hb dX3_learn_15 ?_
  refine lv_i2l hx hb dX3_learn_16 rfl ?_
  refine lv_ladd hx hb dX3_learn_17 ?_
  refine va_put (D := D) (ci := 3) (v := .long ((k_er k) + ((4096 - (qual mx z)).toInt64))) (ty := .long) (C := RX3) (T := TX3) (N := 7) hx hb hts (fun _ h => List.mem_cons_of_mem _ (List.mem_append_left _ (List.mem_append_right _ h))) tyX3 tyX3_ok nmX3 hown hK hP hD hS 0 rfl rfl 6 (by decide) (hts _ (List.mem_of_getElem? (i := 1) rfl)) (fun _ h9 => h9) rfl (by decide +kernel) rfl rfl (Nat.le_of_ble_eq_true rfl) dX3_learn_18 (fun H locs hP hD hS => ?_)
  have hP : va_P D vwCl (prW cI cL cM a (ks_er k ((k_er k) + ((4096 - (qual mx z)).toInt64)))) H := hP
  have hD : va_D A (prW cI cL cM a (ks_er k ((k_er k) + ((4096 - (qual mx z)).toInt64)))) := hD
  refine lv_iconst (v := 0) hx hb dX3_learn_21 (by decide) ?_
  refine lv_istore (lv' := [(4, .int 0), (3, .int (qual mx z)), (0, .ref (a 7)), (1, .int z), (2, .int mx)]) hx hb dX3_learn_22 hl (by decide) rfl (fun ls hl => ?_)
  have lp24 : ∀ (n9 : Nat) (j : Nat) (hj : j ≤ k_n k), k_n k - j < n9 → ∀ (H : Heap) (locs : List Loc), va_P D vwCl (prW cI cL cM a (ks_er (ks_mo k (mapM (o_l (k_ph k) z (qual mx z)) j (k_mo k))) ((k_er k) + ((4096 - (qual mx z)).toInt64)))) H → va_D A (prW cI cL cM a (ks_er (ks_mo k (mapM (o_l (k_ph k) z (qual mx z)) j (k_mo k))) ((k_er k) + ((4096 - (qual mx z)).toInt64)))) → va_S A s.heap H locs → ∀ (ls : Array Slot), lv_has ls 5 [(4, .int (nI j)), (3, .int (qual mx z)), (0, .ref (a 7)), (1, .int z), (2, .int mx)] → W p l e (headSpec wsX3_learn ({ frames := 4, cells := 0, slots := 0, locals := 86 })).room s m (([.ref (a 7), .int z, .int mx] : List Value).toArray) below meth c H locs 0 0 (MQ below (va_Qv (fun (_ : Unit) => True) (fun _ t => hq D A (prW cI cL cM a (k_ln z mx k)) t) A) (([.ref (a 7), .int z, .int mx] : List Value).toArray) s 0 0 A) (F0 m 24 ls []) := by
    intro n9
    induction n9 with
    | zero => intro j hj hm9; exact absurd hm9 (Nat.not_lt_zero _)
    | succ n9 ih_lp24 =>
      intro j hj hm9 H locs hP hD hS ls hl
      refine lv_iload hx hb dX3_learn_24 (lv_at hl 0 rfl) ?_
      refine lv_aload_n hx hb dX3_learn_26 rfl (lv_at hl 2 rfl) ?_
      refine va_get (D := D) (ci := 3) (v := .int (nI (k_n k))) (C := RX3) (T := TX3) (N := 7) hx hb hts (fun _ h => List.mem_cons_of_mem _ (List.mem_append_left _ (List.mem_append_right _ h))) hown hK hP 0 rfl rfl 1 (by decide) (hts _ (List.mem_of_getElem? (i := 2) rfl)) (fun _ h9 => h9) rfl dX3_learn_27 ?_
      refine lv_icmp_ge (tgt := 66) hx hb dX3_learn_30 (by decide) (fun cj => ?_) (fun cj => ?_)
      · have cj : (nI (k_n k)) ≤ (nI j) := cj
        have hjn : j = k_n k := by have h8 := ge_N (by omega) (by omega) cj; omega
        rw [hjn] at hP hD
        refine lv_aload_n hx hb dX3_learn_66 rfl (lv_at hl 2 rfl) ?_
        refine lv_dup hx hb dX3_learn_67 rfl ?_
        refine va_get (D := D) (ci := 3) (v := .int (k_bt k)) (C := RX3) (T := TX3) (N := 7) hx hb hts (fun _ h => List.mem_cons_of_mem _ (List.mem_append_left _ (List.mem_append_right _ h))) hown hK hP 0 rfl rfl 5 (by decide) (hts _ (List.mem_of_getElem? (i := 5) rfl)) (fun _ h9 => h9) rfl dX3_learn_68 ?_
        refine lv_iconst (v := 1) hx hb dX3_learn_71 (by decide) ?_
        refine lv_iadd hx hb dX3_learn_72 ?_
        refine va_put (D := D) (ci := 3) (v := .int ((k_bt k) + 1)) (ty := .int) (C := RX3) (T := TX3) (N := 7) hx hb hts (fun _ h => List.mem_cons_of_mem _ (List.mem_append_left _ (List.mem_append_right _ h))) tyX3 tyX3_ok nmX3 hown hK hP hD hS 0 rfl rfl 5 (by decide) (hts _ (List.mem_of_getElem? (i := 5) rfl)) (fun _ h9 => h9) rfl (by decide +kernel) rfl rfl (Nat.le_of_ble_eq_true rfl) dX3_learn_73 (fun H locs hP hD hS => ?_)
        have hP : va_P D vwCl (prW cI cL cM a (ks_er (ks_bt (ks_mo k (mapM (o_l (k_ph k) z (qual mx z)) (k_n k) (k_mo k))) ((k_bt k) + 1)) ((k_er k) + ((4096 - (qual mx z)).toInt64)))) H := hP
        have hD : va_D A (prW cI cL cM a (ks_er (ks_bt (ks_mo k (mapM (o_l (k_ph k) z (qual mx z)) (k_n k) (k_mo k))) ((k_bt k) + 1)) ((k_er k) + ((4096 - (qual mx z)).toInt64)))) := hD
        refine lv_aload_n hx hb dX3_learn_76 rfl (lv_at hl 2 rfl) ?_
        refine lv_iload_n hx hb dX3_learn_77 rfl (lv_at hl 3 rfl) ?_
        refine kVa (rVa (As := [.int z]) (rest := []) ⟨hx, hb, hml, hown, hts⟩ (c_X3_step l D cI cL cM _ a (ks_er (ks_bt (ks_mo k (mapM (o_l (k_ph k) z (qual mx z)) (k_n k) (k_mo k))) ((k_bt k) + 1)) ((k_er k) + ((4096 - (qual mx z)).toInt64))) z hn6 hnd) (cwV 1 hts gX3_learn_X3_step rfl rfl rfl (by decide +kernel) ⟨(Nat.le_of_ble_eq_true rfl), (Nat.le_of_ble_eq_true rfl)⟩) hE hP hD hS hA 0 rfl rfl rfl hl.1 rfl (Nat.le_of_ble_eq_true rfl) dX3_learn_78 ⟨(Nat.le_of_ble_eq_true rfl), (Nat.le_of_ble_eq_true rfl)⟩) hS (fun H locs hP hD hS => ?_)
        have hP : va_P D vwCl (prW cI cL cM a (k_st z (ks_er (ks_bt (ks_mo k (mapM (o_l (k_ph k) z (qual mx z)) (k_n k) (k_mo k))) ((k_bt k) + 1)) ((k_er k) + ((4096 - (qual mx z)).toInt64))))) H := hP
        have hD : va_D A (prW cI cL cM a (k_st z (ks_er (ks_bt (ks_mo k (mapM (o_l (k_ph k) z (qual mx z)) (k_n k) (k_mo k))) ((k_bt k) + 1)) ((k_er k) + ((4096 - (qual mx z)).toInt64))))) := hD
        obtain ⟨u_1, hu_1⟩ : ∃ y9 : Pr, y9 = (k_st z (ks_er (ks_bt (ks_mo k (mapM (o_l (k_ph k) z (qual mx z)) (k_n k) (k_mo k))) ((k_bt k) + 1)) ((k_er k) + ((4096 - (qual mx z)).toInt64)))) := ⟨_, rfl⟩
        rw [← hu_1] at hP hD
        have hn6 : k_n u_1 ≤ 6 := by rw [hu_1, k_st_n]; exact hn6
        refine lv_aload_n hx hb dX3_learn_81 rfl (lv_at hl 2 rfl) ?_
        refine kVa (rVa (As := []) (rest := []) ⟨hx, hb, hml, hown, hts⟩ (c_X3_aimModels l D cI cL cM _ a u_1  hn6) (cwV 0 hts gX3_learn_X3_aimModels rfl rfl rfl (by decide +kernel) ⟨(Nat.le_of_ble_eq_true rfl), (Nat.le_of_ble_eq_true rfl)⟩) hE hP hD hS hA 0 rfl rfl rfl hl.1 rfl (Nat.le_of_ble_eq_true rfl) dX3_learn_82 ⟨(Nat.le_of_ble_eq_true rfl), (Nat.le_of_ble_eq_true rfl)⟩) hS (fun H locs hP hD hS => ?_)
        have hP : va_P D vwCl (prW cI cL cM a (k_am u_1)) H := hP
        have hD : va_D A (prW cI cL cM a (k_am u_1)) := hD
        subst hu_1
        have hw9 : (prW cI cL cM a (k_am (k_st z (ks_er (ks_bt (ks_mo k (mapM (o_l (k_ph k) z (qual mx z)) (k_n k) (k_mo k))) ((k_bt k) + 1)) ((k_er k) + ((4096 - (qual mx z)).toInt64)))))) = (prW cI cL cM a (k_ln z mx k)) := by rfl
        rw [hw9] at hP hD
        exact W.vret hx hb hr (fun t ht hW => ⟨⟨(), rfl, trivial, by rw [ht]; exact hP, hD⟩, hS.F ht⟩) hS.2.2 dX3_learn_85
      · have cj : ¬ (nI (k_n k)) ≤ (nI j) := cj
        have hjn : j < k_n k := nge_N (by omega) (by omega) cj
        have hm6 : j < 6 := by omega
        refine lv_aload_n hx hb dX3_learn_33 rfl (lv_at hl 2 rfl) ?_
        refine va_get (D := D) (ci := 3) (v := .ref (a 8)) (C := RX3) (T := TX3) (N := 7) hx hb hts (fun _ h => List.mem_cons_of_mem _ (List.mem_append_left _ (List.mem_append_right _ h))) hown hK hP 0 rfl rfl 0 (by decide) (hts _ (List.mem_of_getElem? (i := 3) rfl)) (fun _ h9 => h9) rfl dX3_learn_34 ?_
        refine lv_iload hx hb dX3_learn_37 (lv_at hl 0 rfl) ?_
        refine aldN hx hb hK hP 1 2 rfl rfl j (hm6) (Nat.le_of_ble_eq_true rfl) rfl dX3_learn_39 ?_
        refine lv_aload_n hx hb dX3_learn_40 rfl (lv_at hl 2 rfl) ?_
        refine va_get (D := D) (ci := 3) (v := .int (k_ph k)) (C := RX3) (T := TX3) (N := 7) hx hb hts (fun _ h => List.mem_cons_of_mem _ (List.mem_append_left _ (List.mem_append_right _ h))) hown hK hP 0 rfl rfl 4 (by decide) (hts _ (List.mem_of_getElem? (i := 4) rfl)) (fun _ h9 => h9) rfl dX3_learn_41 ?_
        refine lv_iload_n hx hb dX3_learn_44 rfl (lv_at hl 3 rfl) ?_
        refine lv_iload_n hx hb dX3_learn_45 rfl (lv_at hl 1 rfl) ?_
        refine kV (rV (As := [.int (k_ph k), .int z, .int (qual mx z)]) (rest := []) ⟨hx, hb, hml, hown, hts⟩ (c_X2_adjustWeight l D cI cL cM _ (a (11 + 4 * j)) (a (12 + 4 * j)) (a (13 + 4 * j)) (a (14 + 4 * j)) ((mapM (o_l (k_ph k) z (qual mx z)) j (k_mo k)) j) (k_ph k) z (qual mx z) (by rw [mapM_at]; exact hpl j hjn) hph) (cwV 3 hts gX3_learn_X2_adjustWeight rfl rfl rfl (by decide +kernel) ⟨(Nat.le_of_ble_eq_true rfl), (Nat.le_of_ble_eq_true rfl)⟩) hE hP hD [3 + 4 * j, 4 + 4 * j, 5 + 4 * j, 6 + 4 * j] (prW_nd hm6) (prW_C cI cL cM a _ hm6) rfl rfl rfl hl.1 rfl (Nat.le_of_ble_eq_true rfl) dX3_learn_46 ⟨(Nat.le_of_ble_eq_true rfl), (Nat.le_of_ble_eq_true rfl)⟩) hP hD hS hA (is := [3 + 4 * j, 4 + 4 * j, 5 + 4 * j, 6 + 4 * j]) (prW_C cI cL cM a _ hm6) rfl (fun H locs hP hD hS => ?_)
        rw [prW_put cI cL cM a _ hm6] at hP hD
        have hP : va_P D vwCl (prW cI cL cM a (ks_er (ks_mo k (setM (mapM (o_l (k_ph k) z (qual mx z)) j (k_mo k)) j (o_aw (k_ph k) z (qual mx z) ((mapM (o_l (k_ph k) z (qual mx z)) j (k_mo k)) j)))) ((k_er k) + ((4096 - (qual mx z)).toInt64)))) H := hP
        have hD : va_D A (prW cI cL cM a (ks_er (ks_mo k (setM (mapM (o_l (k_ph k) z (qual mx z)) j (k_mo k)) j (o_aw (k_ph k) z (qual mx z) ((mapM (o_l (k_ph k) z (qual mx z)) j (k_mo k)) j)))) ((k_er k) + ((4096 - (qual mx z)).toInt64)))) := hD
        refine lv_aload_n hx hb dX3_learn_49 rfl (lv_at hl 2 rfl) ?_
        refine va_get (D := D) (ci := 3) (v := .ref (a 8)) (C := RX3) (T := TX3) (N := 7) hx hb hts (fun _ h => List.mem_cons_of_mem _ (List.mem_append_left _ (List.mem_append_right _ h))) hown hK hP 0 rfl rfl 0 (by decide) (hts _ (List.mem_of_getElem? (i := 3) rfl)) (fun _ h9 => h9) rfl dX3_learn_50 ?_
        refine lv_iload hx hb dX3_learn_53 (lv_at hl 0 rfl) ?_
        refine aldN hx hb hK hP 1 2 rfl rfl j (hm6) (Nat.le_of_ble_eq_true rfl) rfl dX3_learn_55 ?_
        refine lv_iload_n hx hb dX3_learn_56 rfl (lv_at hl 3 rfl) ?_
        refine kV (rV (As := [.int z]) (rest := []) ⟨hx, hb, hml, hown, hts⟩ (c_X2_adjustCounter l D cI cL cM _ (a (11 + 4 * j)) (a (12 + 4 * j)) (a (13 + 4 * j)) (a (14 + 4 * j)) ((setM (mapM (o_l (k_ph k) z (qual mx z)) j (k_mo k)) j (o_aw (k_ph k) z (qual mx z) ((mapM (o_l (k_ph k) z (qual mx z)) j (k_mo k)) j))) j) z (by rw [setM_at, o_aw_pl, mapM_at]; exact hpl j hjn)) (cwV 1 hts gX3_learn_X2_adjustCounter rfl rfl rfl (by decide +kernel) ⟨(Nat.le_of_ble_eq_true rfl), (Nat.le_of_ble_eq_true rfl)⟩) hE hP hD [3 + 4 * j, 4 + 4 * j, 5 + 4 * j, 6 + 4 * j] (prW_nd hm6) (prW_C cI cL cM a _ hm6) rfl rfl rfl hl.1 rfl (Nat.le_of_ble_eq_true rfl) dX3_learn_57 ⟨(Nat.le_of_ble_eq_true rfl), (Nat.le_of_ble_eq_true rfl)⟩) hP hD hS hA (is := [3 + 4 * j, 4 + 4 * j, 5 + 4 * j, 6 + 4 * j]) (prW_C cI cL cM a _ hm6) rfl (fun H locs hP hD hS => ?_)
        rw [prW_put cI cL cM a _ hm6] at hP hD
        have hP : va_P D vwCl (prW cI cL cM a (ks_er (ks_mo k (setM (setM (mapM (o_l (k_ph k) z (qual mx z)) j (k_mo k)) j (o_aw (k_ph k) z (qual mx z) ((mapM (o_l (k_ph k) z (qual mx z)) j (k_mo k)) j))) j (o_ac z ((setM (mapM (o_l (k_ph k) z (qual mx z)) j (k_mo k)) j (o_aw (k_ph k) z (qual mx z) ((mapM (o_l (k_ph k) z (qual mx z)) j (k_mo k)) j))) j)))) ((k_er k) + ((4096 - (qual mx z)).toInt64)))) H := hP
        have hD : va_D A (prW cI cL cM a (ks_er (ks_mo k (setM (setM (mapM (o_l (k_ph k) z (qual mx z)) j (k_mo k)) j (o_aw (k_ph k) z (qual mx z) ((mapM (o_l (k_ph k) z (qual mx z)) j (k_mo k)) j))) j (o_ac z ((setM (mapM (o_l (k_ph k) z (qual mx z)) j (k_mo k)) j (o_aw (k_ph k) z (qual mx z) ((mapM (o_l (k_ph k) z (qual mx z)) j (k_mo k)) j))) j)))) ((k_er k) + ((4096 - (qual mx z)).toInt64)))) := hD
        refine lv_iinc (v := nI (j + 1)) (lv' := [(4, .int (nI (j + 1))), (3, .int (qual mx z)), (0, .ref (a 7)), (1, .int z), (2, .int mx)]) hx hb dX3_learn_60 hl (k := 0) rfl (nI_1 _) (by decide) rfl (fun ls hl => ?_)
        refine lv_goto (tgt := 24) hx hb dX3_learn_63 (by decide) ?_
        rw [setM_ss, setM_at] at hP hD
        have hP : va_P D vwCl (prW cI cL cM a (ks_er (ks_mo k (setM (mapM (o_l (k_ph k) z (qual mx z)) j (k_mo k)) j (o_l (k_ph k) z (qual mx z) ((mapM (o_l (k_ph k) z (qual mx z)) j (k_mo k)) j)))) ((k_er k) + ((4096 - (qual mx z)).toInt64)))) H := hP
        have hD : va_D A (prW cI cL cM a (ks_er (ks_mo k (setM (mapM (o_l (k_ph k) z (qual mx z)) j (k_mo k)) j (o_l (k_ph k) z (qual mx z) ((mapM (o_l (k_ph k) z (qual mx z)) j (k_mo k)) j)))) ((k_er k) + ((4096 - (qual mx z)).toInt64)))) := hD
        rw [mapM_s] at hP hD
        exact ih_lp24 (j + 1) (by omega) (by omega) _ _ hP hD hS ls (lv_sub hl [0, 1, 2, 3, 4] rfl)
  have e0 : (prW cI cL cM a (ks_er k ((k_er k) + ((4096 - (qual mx z)).toInt64)))) = (prW cI cL cM a (ks_er (ks_mo k (mapM (o_l (k_ph k) z (qual mx z)) 0 (k_mo k))) ((k_er k) + ((4096 - (qual mx z)).toInt64)))) := by rw [mapM_0]; rfl
  rw [e0] at hP hD
  exact lp24 _ 0 (Nat.zero_le _) (Nat.lt_succ_self _) _ _ hP hD hS ls (lv_sub hl [0, 1, 2, 3, 4] rfl)
