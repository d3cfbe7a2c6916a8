/-! ===== BitMixer.differences ===== -/
theorem maxN {a b : Nat} (ha : a < 2147483648) (hb : b < 2147483648) : (if nI a < nI b then nI b else nI a) = nI (max a b) := by
  by_cases h : a < b
  · rw [if_pos ((nI_ltI ha hb).mpr h), Nat.max_eq_right (Nat.le_of_lt h)]
  · rw [if_neg (fun q => h ((nI_ltI ha hb).mp q)), Nat.max_eq_left (Nat.le_of_not_lt h)]
def dfX (x : Mx) : Nat → Int32
  | 0 => 0
  | k + 1 => if q_has (x_tx x) (nI k) = 0 then dfX x k + 1 else if q_has (x_de x) (nI k) = 0 then dfX x k + 1 else if q_at (x_tx x) (nI k) = q_at (x_de x) (nI k) then dfX x k else dfX x k + 1

set_option maxHeartbeats 4000000 in
set_option maxRecDepth 100000 in
theorem c_X4_differences (l : Launch) (D : va_G) (cI cL cM : ClassId) (A : Nat → Prop) (a : Nat → Nat) (x : Mx) (htc : q_c (x_tx x) ≤ 80) (hdc : q_c (x_de x) ≤ 80) : mI l yX4_differences wsX4_differences ({ frames := 2, cells := 0, slots := 0, locals := 42 }) D (tB cI cL cM) A [.ref (a 0)] (mxW cI cL cM a x) (dfX x (max (q_c (x_tx x)) (q_c (x_de x)))) (mxW cI cL cM a x) := by
  refine Met.ofW (cc := cX4_differences) (maxL := 5) (ret := (some .int)) (by decide) rfl ?_
  intro p e s m args below meth c s₁ B hml hv
  obtain ⟨rfl, hP, hE, hD, hA⟩ := hv
  have hK := hE.1
  have hx := B.exec
  have hb := B.bytes
  have hr := B.returns
  have hts := atoms_spec (ws := wsX4_differences) B.pre
  have hown : s.vm.findClass RX4 = some m.cls := findClass_of_methodNamed B.named
  have hlocks := B.notSynchronized
  have hS : va_S A s.heap s.heap [] := va_S.rf
  have hl := lv_entry ([.ref (a 0)]) (n := 5) (Nat.le_of_ble_eq_true rfl)
  rw [lg_entry_eq]
  generalize (lg_sl ([.ref (a 0)]) ++ List.replicate (5 - (lg_sl ([.ref (a 0)])).length) Slot.unset).toArray = ls at hl ⊢
  have hl : lv_has ls 5 [(0, .ref (a 0))] := hl
  refine lv_aload_n hx hb dX4_differences_0 rfl (lv_at hl 0 rfl) ?_
  refine va_get (D := D) (ci := 4) (v := .ref (a 1)) (C := RX4) (T := TX4) (N := 5) hx hb hts (fun _ h => List.mem_cons_of_mem _ (List.mem_append_left _ (List.mem_append_right _ h))) hown hK hP 0 rfl rfl 0 (by decide) (hts _ (List.mem_of_getElem? (i := 1) rfl)) (fun _ h9 => h9) rfl dX4_differences_1 ?_
  refine va_get (D := D) (ci := 0) (v := .int (nI (q_c (x_tx x)))) (C := RX0) (T := TX0) (N := 2) hx hb hts (fun _ h => List.mem_cons_of_mem _ (List.mem_append_right _ h)) hown hK hP 1 rfl rfl 1 (by decide) (hts _ (List.mem_of_getElem? (i := 2) rfl)) (fun _ h9 => h9) rfl dX4_differences_4 ?_
  refine lv_aload_n hx hb dX4_differences_7 rfl (lv_at hl 0 rfl) ?_
  refine va_get (D := D) (ci := 4) (v := .ref (a 5)) (C := RX4) (T := TX4) (N := 5) hx hb hts (fun _ h => List.mem_cons_of_mem _ (List.mem_append_left _ (List.mem_append_right _ h))) hown hK hP 0 rfl rfl 2 (by decide) (hts _ (List.mem_of_getElem? (i := 3) rfl)) (fun _ h9 => h9) rfl dX4_differences_8 ?_
  refine va_get (D := D) (ci := 0) (v := .int (nI (q_c (x_de x)))) (C := RX0) (T := TX0) (N := 2) hx hb hts (fun _ h => List.mem_cons_of_mem _ (List.mem_append_right _ h)) hown hK hP 5 rfl rfl 1 (by decide) (hts _ (List.mem_of_getElem? (i := 2) rfl)) (fun _ h9 => h9) rfl dX4_differences_11 ?_
  refine va_mmax hx hb (hml.trans hl.1.symm) hown (hts _ (List.mem_of_getElem? (i := 4) rfl)) (hts _ (List.mem_of_getElem? (i := 5) rfl)) (hts _ (List.mem_of_getElem? (i := 6) rfl)) (hts _ (List.mem_of_getElem? (i := 7) rfl)) (Nat.le_of_ble_eq_true rfl) (Nat.le_of_ble_eq_true rfl) (Nat.le_of_ble_eq_true rfl) (Nat.le_of_ble_eq_true rfl) dX4_differences_14 ?_
  refine topI (y := nI (max (q_c (x_tx x)) (q_c (x_de x)))) (maxN (by omega) (by omega)) ?_
  refine lv_istore_n (lv' := [(1, .int (nI (max (q_c (x_tx x)) (q_c (x_de x))))), (0, .ref (a 0))]) hx hb dX4_differences_17 rfl hl (by decide) rfl (fun ls hl => ?_)
  refine lv_iconst (v := 0) hx hb dX4_differences_18 (by decide) ?_
  refine lv_istore_n (lv' := [(2, .int 0), (1, .int (nI (max (q_c (x_tx x)) (q_c (x_de x))))), (0, .ref (a 0))]) hx hb dX4_differences_19 rfl hl (by decide) rfl (fun ls hl => ?_)
  refine lv_iconst (v := 0) hx hb dX4_differences_20 (by decide) ?_
  refine lv_istore_n (lv' := [(3, .int 0), (2, .int 0), (1, .int (nI (max (q_c (x_tx x)) (q_c (x_de x))))), (0, .ref (a 0))]) hx hb dX4_differences_21 rfl hl (by decide) rfl (fun ls hl => ?_)
  have lpd : ∀ (n9 : Nat) (k9 : Nat) (hk9 : k9 ≤ (max (q_c (x_tx x)) (q_c (x_de x)))), (max (q_c (x_tx x)) (q_c (x_de x))) - k9 < n9 → ∀ (H : Heap) (locs : List Loc), va_P D vwCl (mxW cI cL cM a x) H → va_D A (mxW cI cL cM a x) → va_S A s.heap H locs → ∀ (ls : Array Slot), lv_has ls 5 [(3, .int (nI k9)), (2, .int (dfX x k9)), (1, .int (nI (max (q_c (x_tx x)) (q_c (x_de x))))), (0, .ref (a 0))] → W p l e (headSpec wsX4_differences ({ frames := 2, cells := 0, slots := 0, locals := 42 })).room s m (([.ref (a 0)] : List Value).toArray) below meth c H locs 0 0 (MQ below (va_Qi (fun x9 (_ : Unit) => x9 = (dfX x (max (q_c (x_tx x)) (q_c (x_de x))))) (fun _ t => hq D A (mxW cI cL cM a x) t) A) (([.ref (a 0)] : List Value).toArray) s 0 0 A) (F0 m 22 ls []) := by
    intro n9
    induction n9 with
    | zero => intro k9 hk9 hm9; exact absurd hm9 (Nat.not_lt_zero _)
    | succ n9 ih_lpd =>
      intro k9 hk9 hm9 H locs hP hD hS ls hl
      refine lv_iload_n hx hb dX4_differences_22 rfl (lv_at hl 0 rfl) ?_
      refine lv_iload_n hx hb dX4_differences_23 rfl (lv_at hl 2 rfl) ?_
      refine lv_icmp_ge (tgt := 89) hx hb dX4_differences_24 (by decide) (fun cj => ?_) (fun cj => ?_)
      · replace cj : (nI (max (q_c (x_tx x)) (q_c (x_de x)))) ≤ (nI k9) := cj
        have hjn : k9 = (max (q_c (x_tx x)) (q_c (x_de x))) := by have h8 := ge_N (by omega) (by omega) cj; omega
        refine lv_iload_n hx hb dX4_differences_89 rfl (lv_at hl 1 rfl) ?_
        exact W.iret (v := (dfX x k9)) hx hb hr (fun t ht hW => ⟨⟨(dfX x k9), (), rfl, by rw [hjn], by rw [ht]; exact hP, hD⟩, hS.F ht⟩) hS.2.2 dX4_differences_90
      · replace cj : ¬ (nI (max (q_c (x_tx x)) (q_c (x_de x)))) ≤ (nI k9) := cj
        have hjn : k9 < (max (q_c (x_tx x)) (q_c (x_de x))) := nge_N (by omega) (by omega) cj
        refine lv_aload_n hx hb dX4_differences_27 rfl (lv_at hl 3 rfl) ?_
        refine va_get (D := D) (ci := 4) (v := .ref (a 1)) (C := RX4) (T := TX4) (N := 5) hx hb hts (fun _ h => List.mem_cons_of_mem _ (List.mem_append_left _ (List.mem_append_right _ h))) hown hK hP 0 rfl rfl 0 (by decide) (hts _ (List.mem_of_getElem? (i := 1) rfl)) (fun _ h9 => h9) rfl dX4_differences_28 ?_
        refine lv_iload_n hx hb dX4_differences_31 rfl (lv_at hl 0 rfl) ?_
        refine kI (rV (As := [.int (nI k9)]) (rest := []) ⟨hx, hb, hml, hown, hts⟩ (c_X0_has l D cI cL cM _ (a 1) (a 2) 80 (x_tx x) (nI k9) htc (Nat.le_of_ble_eq_true rfl)) (cwV 1 hts gX4_differences_X0_has rfl rfl rfl (by decide +kernel) ⟨(Nat.le_of_ble_eq_true rfl), (Nat.le_of_ble_eq_true rfl)⟩) hE hP hD [1, 2] rfl rfl rfl rfl rfl hl.1 rfl (Nat.le_of_ble_eq_true rfl) dX4_differences_32 ⟨(Nat.le_of_ble_eq_true rfl), (Nat.le_of_ble_eq_true rfl)⟩) hP hD hS hA (is := [1, 2]) rfl rfl (fun H locs hP hD hS => ?_)
        rw [mxW_tx, xs_tx_self] at hP hD
        have hP : va_P D vwCl (mxW cI cL cM a x) H := hP
        have hD : va_D A (mxW cI cL cM a x) := hD
        refine lv_if_eq (tgt := 72) hx hb dX4_differences_35 (by decide) (fun ca => ?_) (fun ca => ?_)
        · replace ca : (q_has (x_tx x) (nI k9)) = (0 : Int32) := ca
          refine lv_iconst (v := 0) hx hb dX4_differences_72 (by decide) ?_
          refine lv_istore (lv' := [(4, .int 0), (3, .int (nI k9)), (2, .int (dfX x k9)), (1, .int (nI (max (q_c (x_tx x)) (q_c (x_de x))))), (0, .ref (a 0))]) hx hb dX4_differences_73 hl (by decide) rfl (fun ls hl => ?_)
          refine lv_iload hx hb dX4_differences_75 (lv_at hl 0 rfl) ?_
          refine lv_if_ne (tgt := 83) hx hb dX4_differences_77 (by decide) (fun c_1 => absurd (by decide) c_1) (fun c_1 => ?_)
          refine lv_iinc (v := (dfX x k9) + 1) (lv' := [(2, .int ((dfX x k9) + 1)), (4, .int 0), (3, .int (nI k9)), (1, .int (nI (max (q_c (x_tx x)) (q_c (x_de x))))), (0, .ref (a 0))]) hx hb dX4_differences_80 hl (k := 2) rfl (rfl) (by decide) rfl (fun ls hl => ?_)
          refine lv_iinc (v := nI (k9 + 1)) (lv' := [(3, .int (nI (k9 + 1))), (2, .int ((dfX x k9) + 1)), (4, .int 0), (1, .int (nI (max (q_c (x_tx x)) (q_c (x_de x))))), (0, .ref (a 0))]) hx hb dX4_differences_83 hl (k := 2) rfl (nI_1 _) (by decide) rfl (fun ls hl => ?_)
          refine lv_goto (tgt := 22) hx hb dX4_differences_86 (by decide) ?_
          have e9 : dfX x (k9 + 1) = (dfX x k9) + 1 := by show (if q_has (x_tx x) (nI k9) = 0 then dfX x k9 + 1 else if q_has (x_de x) (nI k9) = 0 then dfX x k9 + 1 else if q_at (x_tx x) (nI k9) = q_at (x_de x) (nI k9) then dfX x k9 else dfX x k9 + 1) = _; rw [if_pos ca]
          rw [← e9] at hl
          exact ih_lpd (k9 + 1) (by omega) (by omega) _ _ hP hD hS ls (lv_sub hl [0, 1, 3, 4] rfl)
        · replace ca : ¬ (q_has (x_tx x) (nI k9)) = (0 : Int32) := ca
          refine lv_aload_n hx hb dX4_differences_38 rfl (lv_at hl 3 rfl) ?_
          refine va_get (D := D) (ci := 4) (v := .ref (a 5)) (C := RX4) (T := TX4) (N := 5) hx hb hts (fun _ h => List.mem_cons_of_mem _ (List.mem_append_left _ (List.mem_append_right _ h))) hown hK hP 0 rfl rfl 2 (by decide) (hts _ (List.mem_of_getElem? (i := 3) rfl)) (fun _ h9 => h9) rfl dX4_differences_39 ?_
          refine lv_iload_n hx hb dX4_differences_42 rfl (lv_at hl 0 rfl) ?_
          refine kI (rV (As := [.int (nI k9)]) (rest := []) ⟨hx, hb, hml, hown, hts⟩ (c_X0_has l D cI cL cM _ (a 5) (a 6) 80 (x_de x) (nI k9) hdc (Nat.le_of_ble_eq_true rfl)) (cwV 1 hts gX4_differences_X0_has rfl rfl rfl (by decide +kernel) ⟨(Nat.le_of_ble_eq_true rfl), (Nat.le_of_ble_eq_true rfl)⟩) hE hP hD [5, 6] rfl rfl rfl rfl rfl hl.1 rfl (Nat.le_of_ble_eq_true rfl) dX4_differences_43 ⟨(Nat.le_of_ble_eq_true rfl), (Nat.le_of_ble_eq_true rfl)⟩) hP hD hS hA (is := [5, 6]) rfl rfl (fun H locs hP hD hS => ?_)
          rw [mxW_de, xs_de_self] at hP hD
          have hP : va_P D vwCl (mxW cI cL cM a x) H := hP
          have hD : va_D A (mxW cI cL cM a x) := hD
          refine lv_if_eq (tgt := 72) hx hb dX4_differences_46 (by decide) (fun cb => ?_) (fun cb => ?_)
          · replace cb : (q_has (x_de x) (nI k9)) = (0 : Int32) := cb
            refine lv_iconst (v := 0) hx hb dX4_differences_72 (by decide) ?_
            refine lv_istore (lv' := [(4, .int 0), (3, .int (nI k9)), (2, .int (dfX x k9)), (1, .int (nI (max (q_c (x_tx x)) (q_c (x_de x))))), (0, .ref (a 0))]) hx hb dX4_differences_73 hl (by decide) rfl (fun ls hl => ?_)
            refine lv_iload hx hb dX4_differences_75 (lv_at hl 0 rfl) ?_
            refine lv_if_ne (tgt := 83) hx hb dX4_differences_77 (by decide) (fun c_2 => absurd (by decide) c_2) (fun c_2 => ?_)
            refine lv_iinc (v := (dfX x k9) + 1) (lv' := [(2, .int ((dfX x k9) + 1)), (4, .int 0), (3, .int (nI k9)), (1, .int (nI (max (q_c (x_tx x)) (q_c (x_de x))))), (0, .ref (a 0))]) hx hb dX4_differences_80 hl (k := 2) rfl (rfl) (by decide) rfl (fun ls hl => ?_)
            refine lv_iinc (v := nI (k9 + 1)) (lv' := [(3, .int (nI (k9 + 1))), (2, .int ((dfX x k9) + 1)), (4, .int 0), (1, .int (nI (max (q_c (x_tx x)) (q_c (x_de x))))), (0, .ref (a 0))]) hx hb dX4_differences_83 hl (k := 2) rfl (nI_1 _) (by decide) rfl (fun ls hl => ?_)
            refine lv_goto (tgt := 22) hx hb dX4_differences_86 (by decide) ?_
            have e9 : dfX x (k9 + 1) = (dfX x k9) + 1 := by show (if q_has (x_tx x) (nI k9) = 0 then dfX x k9 + 1 else if q_has (x_de x) (nI k9) = 0 then dfX x k9 + 1 else if q_at (x_tx x) (nI k9) = q_at (x_de x) (nI k9) then dfX x k9 else dfX x k9 + 1) = _; rw [if_neg ca, if_pos cb]
            rw [← e9] at hl
            exact ih_lpd (k9 + 1) (by omega) (by omega) _ _ hP hD hS ls (lv_sub hl [0, 1, 3, 4] rfl)
          · replace cb : ¬ (q_has (x_de x) (nI k9)) = (0 : Int32) := cb
            refine lv_aload_n hx hb dX4_differences_49 rfl (lv_at hl 3 rfl) ?_
            refine va_get (D := D) (ci := 4) (v := .ref (a 1)) (C := RX4) (T := TX4) (N := 5) hx hb hts (fun _ h => List.mem_cons_of_mem _ (List.mem_append_left _ (List.mem_append_right _ h))) hown hK hP 0 rfl rfl 0 (by decide) (hts _ (List.mem_of_getElem? (i := 1) rfl)) (fun _ h9 => h9) rfl dX4_differences_50 ?_
            refine lv_iload_n hx hb dX4_differences_53 rfl (lv_at hl 0 rfl) ?_
            refine kI (rV (As := [.int (nI k9)]) (rest := []) ⟨hx, hb, hml, hown, hts⟩ (c_X0_at l D cI cL cM _ (a 1) (a 2) 80 (x_tx x) (nI k9) htc (Nat.le_of_ble_eq_true rfl)) (cwV 1 hts gX4_differences_X0_at rfl rfl rfl (by decide +kernel) ⟨(Nat.le_of_ble_eq_true rfl), (Nat.le_of_ble_eq_true rfl)⟩) hE hP hD [1, 2] rfl rfl rfl rfl rfl hl.1 rfl (Nat.le_of_ble_eq_true rfl) dX4_differences_54 ⟨(Nat.le_of_ble_eq_true rfl), (Nat.le_of_ble_eq_true rfl)⟩) hP hD hS hA (is := [1, 2]) rfl rfl (fun H locs hP hD hS => ?_)
            rw [mxW_tx, xs_tx_self] at hP hD
            have hP : va_P D vwCl (mxW cI cL cM a x) H := hP
            have hD : va_D A (mxW cI cL cM a x) := hD
            refine lv_aload_n hx hb dX4_differences_57 rfl (lv_at hl 3 rfl) ?_
            refine va_get (D := D) (ci := 4) (v := .ref (a 5)) (C := RX4) (T := TX4) (N := 5) hx hb hts (fun _ h => List.mem_cons_of_mem _ (List.mem_append_left _ (List.mem_append_right _ h))) hown hK hP 0 rfl rfl 2 (by decide) (hts _ (List.mem_of_getElem? (i := 3) rfl)) (fun _ h9 => h9) rfl dX4_differences_58 ?_
            refine lv_iload_n hx hb dX4_differences_61 rfl (lv_at hl 0 rfl) ?_
            refine kI (rV (As := [.int (nI k9)]) (rest := [.int (q_at (x_tx x) (nI k9))]) ⟨hx, hb, hml, hown, hts⟩ (c_X0_at l D cI cL cM _ (a 5) (a 6) 80 (x_de x) (nI k9) hdc (Nat.le_of_ble_eq_true rfl)) (cwV 1 hts gX4_differences_X0_at rfl rfl rfl (by decide +kernel) ⟨(Nat.le_of_ble_eq_true rfl), (Nat.le_of_ble_eq_true rfl)⟩) hE hP hD [5, 6] rfl rfl rfl rfl rfl hl.1 rfl (Nat.le_of_ble_eq_true rfl) dX4_differences_62 ⟨(Nat.le_of_ble_eq_true rfl), (Nat.le_of_ble_eq_true rfl)⟩) hP hD hS hA (is := [5, 6]) rfl rfl (fun H locs hP hD hS => ?_)
            rw [mxW_de, xs_de_self] at hP hD
            have hP : va_P D vwCl (mxW cI cL cM a x) H := hP
            have hD : va_D A (mxW cI cL cM a x) := hD
            refine lv_icmp_ne (tgt := 72) hx hb dX4_differences_65 (by decide) (fun cd => ?_) (fun cd => ?_)
            · replace cd : ¬ (q_at (x_tx x) (nI k9)) = (q_at (x_de x) (nI k9)) := cd
              refine lv_iconst (v := 0) hx hb dX4_differences_72 (by decide) ?_
              refine lv_istore (lv' := [(4, .int 0), (3, .int (nI k9)), (2, .int (dfX x k9)), (1, .int (nI (max (q_c (x_tx x)) (q_c (x_de x))))), (0, .ref (a 0))]) hx hb dX4_differences_73 hl (by decide) rfl (fun ls hl => ?_)
              refine lv_iload hx hb dX4_differences_75 (lv_at hl 0 rfl) ?_
              refine lv_if_ne (tgt := 83) hx hb dX4_differences_77 (by decide) (fun c_3 => absurd (by decide) c_3) (fun c_3 => ?_)
              refine lv_iinc (v := (dfX x k9) + 1) (lv' := [(2, .int ((dfX x k9) + 1)), (4, .int 0), (3, .int (nI k9)), (1, .int (nI (max (q_c (x_tx x)) (q_c (x_de x))))), (0, .ref (a 0))]) hx hb dX4_differences_80 hl (k := 2) rfl (rfl) (by decide) rfl (fun ls hl => ?_)
              refine lv_iinc (v := nI (k9 + 1)) (lv' := [(3, .int (nI (k9 + 1))), (2, .int ((dfX x k9) + 1)), (4, .int 0), (1, .int (nI (max (q_c (x_tx x)) (q_c (x_de x))))), (0, .ref (a 0))]) hx hb dX4_differences_83 hl (k := 2) rfl (nI_1 _) (by decide) rfl (fun ls hl => ?_)
              refine lv_goto (tgt := 22) hx hb dX4_differences_86 (by decide) ?_
              have e9 : dfX x (k9 + 1) = (dfX x k9) + 1 := by show (if q_has (x_tx x) (nI k9) = 0 then dfX x k9 + 1 else if q_has (x_de x) (nI k9) = 0 then dfX x k9 + 1 else if q_at (x_tx x) (nI k9) = q_at (x_de x) (nI k9) then dfX x k9 else dfX x k9 + 1) = _; rw [if_neg ca, if_neg cb, if_neg cd]
              rw [← e9] at hl
              exact ih_lpd (k9 + 1) (by omega) (by omega) _ _ hP hD hS ls (lv_sub hl [0, 1, 3, 4] rfl)
            · replace cd : (q_at (x_tx x) (nI k9)) = (q_at (x_de x) (nI k9)) := cd
              refine lv_iconst (v := 1) hx hb dX4_differences_68 (by decide) ?_
              refine lv_goto (tgt := 73) hx hb dX4_differences_69 (by decide) ?_
              refine lv_istore (lv' := [(4, .int 1), (3, .int (nI k9)), (2, .int (dfX x k9)), (1, .int (nI (max (q_c (x_tx x)) (q_c (x_de x))))), (0, .ref (a 0))]) hx hb dX4_differences_73 hl (by decide) rfl (fun ls hl => ?_)
              refine lv_iload hx hb dX4_differences_75 (lv_at hl 0 rfl) ?_
              refine lv_if_ne (tgt := 83) hx hb dX4_differences_77 (by decide) (fun c_4 => ?_) (fun c_4 => absurd c_4 (by decide))
              refine lv_iinc (v := nI (k9 + 1)) (lv' := [(3, .int (nI (k9 + 1))), (4, .int 1), (2, .int (dfX x k9)), (1, .int (nI (max (q_c (x_tx x)) (q_c (x_de x))))), (0, .ref (a 0))]) hx hb dX4_differences_83 hl (k := 1) rfl (nI_1 _) (by decide) rfl (fun ls hl => ?_)
              refine lv_goto (tgt := 22) hx hb dX4_differences_86 (by decide) ?_
              have e9 : dfX x (k9 + 1) = (dfX x k9) := by show (if q_has (x_tx x) (nI k9) = 0 then dfX x k9 + 1 else if q_has (x_de x) (nI k9) = 0 then dfX x k9 + 1 else if q_at (x_tx x) (nI k9) = q_at (x_de x) (nI k9) then dfX x k9 else dfX x k9 + 1) = _; rw [if_neg ca, if_neg cb, if_pos cd]
              have hl : lv_has ls 5 [(3, .int (nI (k9 + 1))), (4, .int 1), (2, .int (dfX x (k9 + 1))), (1, .int (nI (max (q_c (x_tx x)) (q_c (x_de x))))), (0, .ref (a 0))] := by rw [e9]; exact hl
              exact ih_lpd (k9 + 1) (by omega) (by omega) _ _ hP hD hS ls (lv_sub hl [0, 2, 3, 4] rfl)
  exact lpd _ 0 (Nat.zero_le _) (Nat.lt_succ_self _) _ _ hP hD hS ls (lv_sub hl [0, 1, 2, 3] rfl)
