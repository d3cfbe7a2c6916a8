/-! ===== BitMixer: the calls that throw ===== -/
section MXO
variable (cI cL cM : ClassId) (a : Nat → Nat) (x : Mx) {m : Nat}
theorem mxW_c (h : m < 6) : (mxW cI cL cM a x)[11 + 4 * m]? = some (a (12 + 4 * m), .inl (cI, 512, .inl (o_co (k_mo (x_pr x) m)))) := by
  match m, h with
  | 0, _ => rfl
  | 1, _ => rfl
  | 2, _ => rfl
  | 3, _ => rfl
  | 4, _ => rfl
  | 5, _ => rfl
theorem mxW_moC (h : m < 6) : [10 + 4 * m, 11 + 4 * m, 12 + 4 * m, 13 + 4 * m].map (fun i => (mxW cI cL cM a x)[i]?) = (moW cI cL (a (11 + 4 * m)) (a (12 + 4 * m)) (a (13 + 4 * m)) (a (14 + 4 * m)) (k_mo (x_pr x) m)).map some := by
  match m, h with
  | 0, _ => rfl
  | 1, _ => rfl
  | 2, _ => rfl
  | 3, _ => rfl
  | 4, _ => rfl
  | 5, _ => rfl
theorem mxW_mond (h : m < 6) : va_nd [10 + 4 * m, 11 + 4 * m, 12 + 4 * m, 13 + 4 * m] = true := by
  match m, h with
  | 0, _ => rfl
  | 1, _ => rfl
  | 2, _ => rfl
  | 3, _ => rfl
  | 4, _ => rfl
  | 5, _ => rfl
theorem mxW_moput (h : m < 6) (o : Mo) : putW (mxW cI cL cM a x) [10 + 4 * m, 11 + 4 * m, 12 + 4 * m, 13 + 4 * m] (moW cI cL (a (11 + 4 * m)) (a (12 + 4 * m)) (a (13 + 4 * m)) (a (14 + 4 * m)) o) = mxW cI cL cM a (xs_pr x (ks_mo (x_pr x) (setM (k_mo (x_pr x)) m o))) := by
  match m, h with
  | 0, _ => rfl
  | 1, _ => rfl
  | 2, _ => rfl
  | 3, _ => rfl
  | 4, _ => rfl
  | 5, _ => rfl
theorem setM_self (f : Nat → Mo) (m : Nat) : setM f m (f m) = f := by
  funext j
  unfold setM
  split
  · rename_i h2; rw [h2]
  · rfl
theorem mxW_moself : mxW cI cL cM a (xs_pr x (ks_mo (x_pr x) (setM (k_mo (x_pr x)) m (k_mo (x_pr x) m)))) = mxW cI cL cM a x := by
  rw [setM_self]
  rfl
theorem mxW_rt (h : m < 6) (y : Int32) : (mxW cI cL cM a x).set (10 + 4 * m) (a (11 + 4 * m), .inr (2, ([.int (o_od (k_mo (x_pr x) m)), .int (o_rt (k_mo (x_pr x) m)), .int (o_t (k_mo (x_pr x) m)), .ref (a (12 + 4 * m)), .ref (a (13 + 4 * m)), .ref (a (14 + 4 * m)), .int (o_cn (k_mo (x_pr x) m)), .int (o_cx (k_mo (x_pr x) m)), .long (o_si (k_mo (x_pr x) m)), .int (o_pl (k_mo (x_pr x) m))] : List Value).set 1 (.int y))) = mxW cI cL cM a (xs_pr x (ks_mo (x_pr x) (setM (k_mo (x_pr x)) m (os_rt (k_mo (x_pr x) m) y)))) := by
  match m, h with
  | 0, _ => rfl
  | 1, _ => rfl
  | 2, _ => rfl
  | 3, _ => rfl
  | 4, _ => rfl
  | 5, _ => rfl
end MXO
def TH1 (E1 : String) (k : Int32) : String → Prop := fun E => E = E1 ∧ k = 1
def TH2 (E1 E2 : String) (k : Int32) : String → Prop := fun E => (E = E1 ∧ k = 1) ∨ (E = E2 ∧ k = 2)
abbrev nMx (x : Mx) : Nat := k_n (x_pr x)
abbrev isM (x : Mx) (q : Int32) : Int32 := isI q 0 (nI (k_n (x_pr x)) - 1)
abbrev moQ (x : Mx) (q : Int32) : Mo := k_mo (x_pr x) q.toNatClampNeg
def cdAdd (x : Mx) (y0 y1 y2 : Int32) : Int32 := if isI y0 0 3 = 0 then 1 else if isI y1 2 7 = 0 then 1 else if isI y2 4 9 = 0 then 1 else if k_n (x_pr x) = 6 then 2 else 0
def cdRem (x : Mx) : Int32 := if k_n (x_pr x) = 0 then 1 else 0
def cdRat (x : Mx) (q y : Int32) : Int32 := if isI q 0 (nI (k_n (x_pr x)) - 1) = 0 then 1 else if isI y 2 7 = 0 then 2 else 0
def cdMod (x : Mx) (q : Int32) : Int32 := if isI q 0 (nI (k_n (x_pr x)) - 1) = 0 then 1 else 0
def cdCnt (x : Mx) (q i : Int32) : Int32 := if isI q 0 (nI (k_n (x_pr x)) - 1) = 0 then 1 else if isI i 0 (o_ts (k_mo (x_pr x) q.toNatClampNeg) - 1) = 0 then 1 else 0
def cdWei (x : Mx) (q i : Int32) : Int32 := if isI q 0 (nI (k_n (x_pr x)) - 1) = 0 then 1 else if isI i 0 7 = 0 then 1 else 0
def cdHis (q : Int32) : Int32 := if isI q 0 2 = 0 then 1 else 0
def cdPlc (r : Row) (q : Int32) : Int32 := if q_has r q = 0 then 1 else 0
def cdCut (r : Row) (q : Int32) : Int32 := if isI q 0 (nI (q_c r)) = 0 then 1 else 0
def cdSet (r : Row) (q v : Int32) : Int32 := if q_has r q = 0 then 1 else if isI v 0 255 = 0 then 2 else 0
theorem k_tk_n (k : Pr) (x y t : Int32) : k_n (k_tk k x y t) = k_n k + 1 := rfl
theorem k_dr_n (k : Pr) : k_n (k_dr k) = k_n k - 1 := rfl
theorem ts5 {i x : Int32} (h0 : 0 < x.toInt) (h1 : x.toInt ≤ 512) (h2 : ¬ i < 0) (h3 : i < x) : ¬ isI i 0 (x - 1) = 0 ∧ vp_in i 512 := by
  have e : (x - 1 : Int32).toInt = x.toInt - 1 := by rw [Int32.toInt_sub, tI1, Int.bmod_eq_of_le (by omega) (by omega)]
  have h4 := h3
  rw [Int32.lt_iff_toInt_lt] at h4
  refine ⟨isI_1 h2 (fun h9 => ?_), vp_in_iff.mpr ⟨?_, by omega⟩⟩
  · rw [Int32.lt_iff_toInt_lt, e] at h9; omega
  · rw [Int32.lt_iff_toInt_lt, tI0] at h2; omega
theorem ts6 {i x : Int32} (h0 : 0 < x.toInt) (h3 : ¬ i < x) : isI i 0 (x - 1) = 0 := by
  have e : (x - 1 : Int32).toInt = x.toInt - 1 := by rw [Int32.toInt_sub, tI1, Int.bmod_eq_of_le (by omega) (by have := Int32.toInt_lt x; omega)]
  refine isI_b ?_
  rw [Int32.lt_iff_toInt_lt, e]
  rw [Int32.lt_iff_toInt_lt] at h3
  omega
theorem lit_lt {i : Int32} {n : Nat} (hn : n < 2147483647) (h1 : ¬ i < 0) (h2 : i < nI (n + 1)) : ¬ isI i 0 (nI n) = 0 ∧ vp_in i (n + 1) := by
  rw [Int32.lt_iff_toInt_lt, nI_toInt (by omega)] at h2
  refine ⟨isI_1 h1 (fun h9 => ?_), vp_in_iff.mpr ⟨?_, by omega⟩⟩
  · rw [Int32.lt_iff_toInt_lt, nI_toInt (by omega)] at h9; omega
  · rw [Int32.lt_iff_toInt_lt, tI0] at h1; omega
theorem lit_ge {i : Int32} {n : Nat} (hn : n < 2147483647) (h2 : ¬ i < nI (n + 1)) : isI i 0 (nI n) = 0 := by
  refine isI_b ?_
  rw [Int32.lt_iff_toInt_lt, nI_toInt (by omega)] at h2 ⊢
  omega

set_option maxHeartbeats 4000000 in
set_option maxRecDepth 100000 in
theorem c_X4_addModel (l : Launch) (hnt : l.stackTraces = false) (D : va_G) (cI cL cM : ClassId) (A : Nat → Prop) (sa : Nat → Nat) (a : Nat → Nat) (x : Mx) (y0 y1 y2 : Int32) (hn6 : k_n (x_pr x) ≤ 6) : mIy l yX4_addModel wsX4_addModel ({ frames := 7, cells := 3, slots := 18, locals := 130 }) D (tB cI cL cM) A sa [.ref (a 0), .int y0, .int y1, .int y2] (mxW cI cL cM a x) (nI (k_n (x_pr x))) (mxW cI cL cM a (xs_pr x (k_tk (x_pr x) y0 y1 y2))) (cdAdd x y0 y1 y2 = 0) (TH2 IAE ISE (cdAdd x y0 y1 y2)) 3 18 := by
  refine vx_ofW (cc := cX4_addModel) (maxL := 4) (ret := (some .int)) (by decide) rfl ?_
  intro p e s m args below meth c s₁ B hml htab hv
  obtain ⟨rfl, hP, hEX, hD, hA⟩ := hv
  have hE := hEX.1
  have hK := hE.1
  have hx := B.exec
  have hb := B.bytes
  have hr := B.returns
  have hts := atoms_spec (ws := wsX4_addModel) B.pre
  have hown : s.vm.findClass RX4 = some m.cls := findClass_of_methodNamed B.named
  have hlocks := B.notSynchronized
  have hS : va_S A s.heap s.heap [] := va_S.rf
  have hl := lv_entry ([.ref (a 0), .int y0, .int y1, .int y2]) (n := 4) (Nat.le_of_ble_eq_true rfl)
  rw [lg_entry_eq]
  generalize (lg_sl ([.ref (a 0), .int y0, .int y1, .int y2]) ++ List.replicate (4 - (lg_sl ([.ref (a 0), .int y0, .int y1, .int y2])).length) Slot.unset).toArray = ls at hl ⊢
  have hl : lv_has ls 4 [(0, .ref (a 0)), (1, .int y0), (2, .int y1), (3, .int y2)] := hl
  refine lv_iload_n hx hb dX4_addModel_0 rfl (lv_at hl 1 rfl) ?_
  refine lv_if_lt (tgt := 9) hx hb dX4_addModel_1 (by decide) (fun c1 => ?_) (fun c1 => ?_)
  · replace c1 : y0 < (0 : Int32) := c1
    have ga : isI y0 0 3 = 0 := isI_a c1
    exact vx_throwS (text := "order is not 0 to 3") (names := xNames) (sa := sa 40) (A := A) hx hb hnt hown (by decide) (by decide) (hts _ (List.mem_of_getElem? (i := 1) rfl)) (hts _ (List.mem_of_getElem? (i := 2) rfl)) (hEX.2.2.2.1 (40, "order is not 0 to 3") (by decide)) (vx_hat (fun w hw => hts w ((fun _ h => List.mem_cons_of_mem _ (List.mem_append_left _ (List.mem_append_right _ h))) w hw)) iae_bad (xW_use hEX.2.2.2.2 _)) iae_good hEX.2.1 hEX.2.2.1 hS (hl.1.trans hml.symm) dX4_addModel_9 dX4_addModel_12 dX4_addModel_13 dX4_addModel_15 dX4_addModel_18 (fun x hx9 => (htab x hx9).elim) (Nat.le_of_ble_eq_true rfl) (Nat.le_of_ble_eq_true rfl) (Nat.le_of_ble_eq_true rfl) (Nat.le_of_ble_eq_true rfl) hlocks (fun t hvm hz hk => ⟨(), trivial, ⟨Or.inl ⟨rfl, (by unfold cdAdd; rw [if_pos ga])⟩, kept_P hP hk, hD⟩, thF hS hz hk⟩) hS.2.2 (Nat.le_of_ble_eq_true rfl) (Nat.le_of_ble_eq_true rfl)
  · replace c1 : ¬ y0 < (0 : Int32) := c1
    refine lv_iload_n hx hb dX4_addModel_4 rfl (lv_at hl 1 rfl) ?_
    refine lv_iconst (v := 3) hx hb dX4_addModel_5 (by decide) ?_
    refine lv_icmp_le (tgt := 19) hx hb dX4_addModel_6 (by decide) (fun c2 => ?_) (fun c2 => ?_)
    · replace c2 : y0 ≤ (3 : Int32) := c2
      have ga := isI_1 c1 (i_nlt c2)
      refine lv_iload_n hx hb dX4_addModel_19 rfl (lv_at hl 2 rfl) ?_
      refine kVx (xS (As := [.int y1]) (rest := []) ⟨hx, hb, hml, hown, hts⟩ (c_X4_requireRate l hnt D cI cL cM _ sa [] y1 ) (va_cwS 1 hts gX4_addModel_X4_requireRate rfl rfl rfl (by decide +kernel) ⟨(Nat.le_of_ble_eq_true rfl), (Nat.le_of_ble_eq_true rfl)⟩) hEX hP hD hS hA [] rfl rfl rfl hl.1 rfl (Nat.le_of_ble_eq_true rfl) dX4_addModel_20 ⟨(Nat.le_of_ble_eq_true rfl), (Nat.le_of_ble_eq_true rfl)⟩) hP hD hS hA (is := []) rfl rfl (fun E9 ce9 q9 H locs hth9 hP hS h91 h92 h93 => ?_) (fun H locs gb hP hD hS => ?_)
      · exact vx_out (fun x hx9 => (htab x hx9).elim) hlocks h91 h92 h93 (fun t ht _ => ⟨(), trivial, ⟨Or.inl ⟨hth9.1, (by unfold cdAdd; rw [if_neg ga, if_pos hth9.2])⟩, by rw [ht]; exact hP, hD⟩, hS.F ht⟩) hS.2.2 (Nat.le_of_ble_eq_true rfl) (Nat.le_of_ble_eq_true rfl)
      rw [putW_nil] at hP hD
      have hP : va_P D vwCl (mxW cI cL cM a x) H := hP
      have hD : va_D A (mxW cI cL cM a x) := hD
      refine lv_iload_n hx hb dX4_addModel_23 rfl (lv_at hl 3 rfl) ?_
      refine lv_iconst (v := 4) hx hb dX4_addModel_24 (by decide) ?_
      refine lv_icmp_lt (tgt := 34) hx hb dX4_addModel_25 (by decide) (fun c3 => ?_) (fun c3 => ?_)
      · replace c3 : y2 < (4 : Int32) := c3
        have gc : isI y2 4 9 = 0 := isI_a c3
        exact vx_throwS (text := "t is not 4 to 9") (names := xNames) (sa := sa 48) (A := A) hx hb hnt hown (by decide) (by decide) (hts _ (List.mem_of_getElem? (i := 1) rfl)) (hts _ (List.mem_of_getElem? (i := 2) rfl)) (hEX.2.2.2.1 (48, "t is not 4 to 9") (by decide)) (vx_hat (fun w hw => hts w ((fun _ h => List.mem_cons_of_mem _ (List.mem_append_left _ (List.mem_append_right _ h))) w hw)) iae_bad (xW_use hEX.2.2.2.2 _)) iae_good hEX.2.1 hEX.2.2.1 hS (hl.1.trans hml.symm) dX4_addModel_34 dX4_addModel_37 dX4_addModel_38 dX4_addModel_40 dX4_addModel_43 (fun x hx9 => (htab x hx9).elim) (Nat.le_of_ble_eq_true rfl) (Nat.le_of_ble_eq_true rfl) (Nat.le_of_ble_eq_true rfl) (Nat.le_of_ble_eq_true rfl) hlocks (fun t hvm hz hk => ⟨(), trivial, ⟨Or.inl ⟨rfl, (by unfold cdAdd; rw [if_neg ga, if_neg gb, if_pos gc])⟩, kept_P hP hk, hD⟩, thF hS hz hk⟩) hS.2.2 (Nat.le_of_ble_eq_true rfl) (Nat.le_of_ble_eq_true rfl)
      · replace c3 : ¬ y2 < (4 : Int32) := c3
        refine lv_iload_n hx hb dX4_addModel_28 rfl (lv_at hl 3 rfl) ?_
        refine lv_bipush (v := 9) hx hb dX4_addModel_29 (by decide) ?_
        refine lv_icmp_le (tgt := 44) hx hb dX4_addModel_31 (by decide) (fun c4 => ?_) (fun c4 => ?_)
        · replace c4 : y2 ≤ (9 : Int32) := c4
          have gc := isI_1 c3 (i_nlt c4)
          refine lv_aload_n hx hb dX4_addModel_44 rfl (lv_at hl 0 rfl) ?_
          refine va_get (D := D) (ci := 4) (v := .ref (a 7)) (C := RX4) (T := TX4) (N := 5) hx hb hts (fun _ h => List.mem_cons_of_mem _ (List.mem_append_left _ (List.mem_append_left _ (List.mem_append_left _ (List.mem_append_left _ (List.mem_append_right _ h)))))) hown hK hP 0 rfl rfl 3 (by decide) (hts _ (List.mem_of_getElem? (i := 5) rfl)) (fun _ h9 => h9) rfl dX4_addModel_45 ?_
          refine va_get (D := D) (ci := 3) (v := .int (nI (k_n (x_pr x)))) (C := RX3) (T := TX3) (N := 7) hx hb hts (fun _ h => List.mem_cons_of_mem _ (List.mem_append_left _ (List.mem_append_left _ (List.mem_append_left _ (List.mem_append_right _ h))))) hown hK hP 7 rfl rfl 1 (by decide) (hts _ (List.mem_of_getElem? (i := 6) rfl)) (fun _ h9 => h9) rfl dX4_addModel_48 ?_
          refine lv_bipush (v := 6) hx hb dX4_addModel_51 (by decide) ?_
          refine lv_icmp_lt (tgt := 66) hx hb dX4_addModel_53 (by decide) (fun c5 => ?_) (fun c5 => ?_)
          · replace c5 : (nI (k_n (x_pr x))) < (6 : Int32) := c5
            have hm6 : k_n (x_pr x) < 6 := by have h9 := (nI_ltI (b := 6) (by omega) (by omega)).mp c5; exact h9
            have gd : ¬ k_n (x_pr x) = 6 := by omega
            refine lv_aload_n hx hb dX4_addModel_66 rfl (lv_at hl 0 rfl) ?_
            refine va_get (D := D) (ci := 4) (v := .ref (a 7)) (C := RX4) (T := TX4) (N := 5) hx hb hts (fun _ h => List.mem_cons_of_mem _ (List.mem_append_left _ (List.mem_append_left _ (List.mem_append_left _ (List.mem_append_left _ (List.mem_append_right _ h)))))) hown hK hP 0 rfl rfl 3 (by decide) (hts _ (List.mem_of_getElem? (i := 5) rfl)) (fun _ h9 => h9) rfl dX4_addModel_67 ?_
            refine lv_iload_n hx hb dX4_addModel_70 rfl (lv_at hl 1 rfl) ?_
            refine lv_iload_n hx hb dX4_addModel_71 rfl (lv_at hl 2 rfl) ?_
            refine lv_iload_n hx hb dX4_addModel_72 rfl (lv_at hl 3 rfl) ?_
            refine kV (rV (As := [.int y0, .int y1, .int y2]) (rest := []) ⟨hx, hb, hml, hown, hts⟩ (c_X3_takeModel l D cI cL cM _ a (x_pr x) y0 y1 y2 hm6) (cwV 3 hts gX4_addModel_X3_takeModel rfl rfl rfl (by decide +kernel) ⟨(Nat.le_of_ble_eq_true rfl), (Nat.le_of_ble_eq_true rfl)⟩) hE hP hD [7, 8, 9, 10, 11, 12, 13, 14, 15, 16, 17, 18, 19, 20, 21, 22, 23, 24, 25, 26, 27, 28, 29, 30, 31, 32, 33] segnd (mxW_prC cI cL cM a _) rfl rfl rfl hl.1 rfl (Nat.le_of_ble_eq_true rfl) dX4_addModel_73 ⟨(Nat.le_of_ble_eq_true rfl), (Nat.le_of_ble_eq_true rfl)⟩) hP hD hS hA (is := [7, 8, 9, 10, 11, 12, 13, 14, 15, 16, 17, 18, 19, 20, 21, 22, 23, 24, 25, 26, 27, 28, 29, 30, 31, 32, 33]) (mxW_prC cI cL cM a _) (prW_fst cI cL cM a _ _) (fun H locs hP hD hS => ?_)
            rw [mxW_pr] at hP hD
            have hP : va_P D vwCl (mxW cI cL cM a (xs_pr x (k_tk (x_pr x) y0 y1 y2))) H := hP
            have hD : va_D A (mxW cI cL cM a (xs_pr x (k_tk (x_pr x) y0 y1 y2))) := hD
            refine lv_aload_n hx hb dX4_addModel_76 rfl (lv_at hl 0 rfl) ?_
            refine va_get (D := D) (ci := 4) (v := .ref (a 7)) (C := RX4) (T := TX4) (N := 5) hx hb hts (fun _ h => List.mem_cons_of_mem _ (List.mem_append_left _ (List.mem_append_left _ (List.mem_append_left _ (List.mem_append_left _ (List.mem_append_right _ h)))))) hown hK hP 0 rfl rfl 3 (by decide) (hts _ (List.mem_of_getElem? (i := 5) rfl)) (fun _ h9 => h9) rfl dX4_addModel_77 ?_
            refine va_get (D := D) (ci := 3) (v := .int (nI (k_n (k_tk (x_pr x) y0 y1 y2)))) (C := RX3) (T := TX3) (N := 7) hx hb hts (fun _ h => List.mem_cons_of_mem _ (List.mem_append_left _ (List.mem_append_left _ (List.mem_append_left _ (List.mem_append_right _ h))))) hown hK hP 7 rfl rfl 1 (by decide) (hts _ (List.mem_of_getElem? (i := 6) rfl)) (fun _ h9 => h9) rfl dX4_addModel_80 ?_
            refine lv_iconst (v := 1) hx hb dX4_addModel_83 (by decide) ?_
            refine lv_isub hx hb dX4_addModel_84 ?_
            refine vx_ret ?_
            refine W.widen (k := 3) (n := 18) (Nat.le_of_ble_eq_true rfl) (Nat.le_of_ble_eq_true rfl) ?_
            exact W.iret (v := (nI (k_n (k_tk (x_pr x) y0 y1 y2))) - 1) hx hb hr (fun t ht hW => ⟨⟨((nI (k_n (k_tk (x_pr x) y0 y1 y2))) - 1), (), rfl, ⟨by (rw [k_tk_n]; exact pk_m1s _), (by unfold cdAdd; rw [if_neg ga, if_neg gb, if_neg gc, if_neg gd])⟩, by rw [ht]; exact hP, hD⟩, hS.F ht⟩) hS.2.2 dX4_addModel_85
          · replace c5 : ¬ (nI (k_n (x_pr x))) < (6 : Int32) := c5
            have gd : k_n (x_pr x) = 6 := by have h9 : ¬ k_n (x_pr x) < 6 := fun h8 => c5 ((nI_ltI (b := 6) (by omega) (by omega)).mpr h8); omega
            exact vx_throwS (text := "there are 6 models") (names := xNames) (sa := sa 56) (A := A) hx hb hnt hown (by decide) (by decide) (hts _ (List.mem_of_getElem? (i := 3) rfl)) (hts _ (List.mem_of_getElem? (i := 4) rfl)) (hEX.2.2.2.1 (56, "there are 6 models") (by decide)) (vx_hat (fun w hw => hts w ((fun _ h => List.mem_cons_of_mem _ (List.mem_append_right _ h)) w hw)) ise_bad (xW_use hEX.2.2.2.2 _)) ise_good hEX.2.1 hEX.2.2.1 hS (hl.1.trans hml.symm) dX4_addModel_56 dX4_addModel_59 dX4_addModel_60 dX4_addModel_62 dX4_addModel_65 (fun x hx9 => (htab x hx9).elim) (Nat.le_of_ble_eq_true rfl) (Nat.le_of_ble_eq_true rfl) (Nat.le_of_ble_eq_true rfl) (Nat.le_of_ble_eq_true rfl) hlocks (fun t hvm hz hk => ⟨(), trivial, ⟨Or.inr ⟨rfl, (by unfold cdAdd; rw [if_neg ga, if_neg gb, if_neg gc, if_pos gd])⟩, kept_P hP hk, hD⟩, thF hS hz hk⟩) hS.2.2 (Nat.le_of_ble_eq_true rfl) (Nat.le_of_ble_eq_true rfl)
        · replace c4 : ¬ y2 ≤ (9 : Int32) := c4
          have gc : isI y2 4 9 = 0 := isI_b (i_lt c4)
          exact vx_throwS (text := "t is not 4 to 9") (names := xNames) (sa := sa 48) (A := A) hx hb hnt hown (by decide) (by decide) (hts _ (List.mem_of_getElem? (i := 1) rfl)) (hts _ (List.mem_of_getElem? (i := 2) rfl)) (hEX.2.2.2.1 (48, "t is not 4 to 9") (by decide)) (vx_hat (fun w hw => hts w ((fun _ h => List.mem_cons_of_mem _ (List.mem_append_left _ (List.mem_append_right _ h))) w hw)) iae_bad (xW_use hEX.2.2.2.2 _)) iae_good hEX.2.1 hEX.2.2.1 hS (hl.1.trans hml.symm) dX4_addModel_34 dX4_addModel_37 dX4_addModel_38 dX4_addModel_40 dX4_addModel_43 (fun x hx9 => (htab x hx9).elim) (Nat.le_of_ble_eq_true rfl) (Nat.le_of_ble_eq_true rfl) (Nat.le_of_ble_eq_true rfl) (Nat.le_of_ble_eq_true rfl) hlocks (fun t hvm hz hk => ⟨(), trivial, ⟨Or.inl ⟨rfl, (by unfold cdAdd; rw [if_neg ga, if_neg gb, if_pos gc])⟩, kept_P hP hk, hD⟩, thF hS hz hk⟩) hS.2.2 (Nat.le_of_ble_eq_true rfl) (Nat.le_of_ble_eq_true rfl)
    · replace c2 : ¬ y0 ≤ (3 : Int32) := c2
      have ga : isI y0 0 3 = 0 := isI_b (i_lt c2)
      exact vx_throwS (text := "order is not 0 to 3") (names := xNames) (sa := sa 40) (A := A) hx hb hnt hown (by decide) (by decide) (hts _ (List.mem_of_getElem? (i := 1) rfl)) (hts _ (List.mem_of_getElem? (i := 2) rfl)) (hEX.2.2.2.1 (40, "order is not 0 to 3") (by decide)) (vx_hat (fun w hw => hts w ((fun _ h => List.mem_cons_of_mem _ (List.mem_append_left _ (List.mem_append_right _ h))) w hw)) iae_bad (xW_use hEX.2.2.2.2 _)) iae_good hEX.2.1 hEX.2.2.1 hS (hl.1.trans hml.symm) dX4_addModel_9 dX4_addModel_12 dX4_addModel_13 dX4_addModel_15 dX4_addModel_18 (fun x hx9 => (htab x hx9).elim) (Nat.le_of_ble_eq_true rfl) (Nat.le_of_ble_eq_true rfl) (Nat.le_of_ble_eq_true rfl) (Nat.le_of_ble_eq_true rfl) hlocks (fun t hvm hz hk => ⟨(), trivial, ⟨Or.inl ⟨rfl, (by unfold cdAdd; rw [if_pos ga])⟩, kept_P hP hk, hD⟩, thF hS hz hk⟩) hS.2.2 (Nat.le_of_ble_eq_true rfl) (Nat.le_of_ble_eq_true rfl)

set_option maxHeartbeats 4000000 in
set_option maxRecDepth 100000 in
theorem c_X4_removeModel (l : Launch) (hnt : l.stackTraces = false) (D : va_G) (cI cL cM : ClassId) (A : Nat → Prop) (sa : Nat → Nat) (a : Nat → Nat) (x : Mx) (hn6 : k_n (x_pr x) ≤ 6) : mIy l yX4_removeModel wsX4_removeModel ({ frames := 6, cells := 3, slots := 18, locals := 127 }) D (tB cI cL cM) A sa [.ref (a 0)] (mxW cI cL cM a x) (nI (k_n (x_pr x) - 1)) (mxW cI cL cM a (xs_pr x (k_dr (x_pr x)))) (cdRem x = 0) (TH1 ISE (cdRem x)) 3 18 := by
  refine vx_ofW (cc := cX4_removeModel) (maxL := 1) (ret := (some .int)) (by decide) rfl ?_
  intro p e s m args below meth c s₁ B hml htab hv
  obtain ⟨rfl, hP, hEX, hD, hA⟩ := hv
  have hE := hEX.1
  have hK := hE.1
  have hx := B.exec
  have hb := B.bytes
  have hr := B.returns
  have hts := atoms_spec (ws := wsX4_removeModel) B.pre
  have hown : s.vm.findClass RX4 = some m.cls := findClass_of_methodNamed B.named
  have hlocks := B.notSynchronized
  have hS : va_S A s.heap s.heap [] := va_S.rf
  have hl := lv_entry ([.ref (a 0)]) (n := 1) (Nat.le_of_ble_eq_true rfl)
  rw [lg_entry_eq]
  generalize (lg_sl ([.ref (a 0)]) ++ List.replicate (1 - (lg_sl ([.ref (a 0)])).length) Slot.unset).toArray = ls at hl ⊢
  have hl : lv_has ls 1 [(0, .ref (a 0))] := hl
  refine lv_aload_n hx hb dX4_removeModel_0 rfl (lv_at hl 0 rfl) ?_
  refine va_get (D := D) (ci := 4) (v := .ref (a 7)) (C := RX4) (T := TX4) (N := 5) hx hb hts (fun _ h => List.mem_cons_of_mem _ (List.mem_append_left _ (List.mem_append_left _ (List.mem_append_left _ (List.mem_append_right _ h))))) hown hK hP 0 rfl rfl 3 (by decide) (hts _ (List.mem_of_getElem? (i := 3) rfl)) (fun _ h9 => h9) rfl dX4_removeModel_1 ?_
  refine va_get (D := D) (ci := 3) (v := .int (nI (k_n (x_pr x)))) (C := RX3) (T := TX3) (N := 7) hx hb hts (fun _ h => List.mem_cons_of_mem _ (List.mem_append_left _ (List.mem_append_left _ (List.mem_append_right _ h)))) hown hK hP 7 rfl rfl 1 (by decide) (hts _ (List.mem_of_getElem? (i := 4) rfl)) (fun _ h9 => h9) rfl dX4_removeModel_4 ?_
  refine lv_if_gt (tgt := 20) hx hb dX4_removeModel_7 (by decide) (fun c1 => ?_) (fun c1 => ?_)
  · replace c1 : (0 : Int32) < (nI (k_n (x_pr x))) := c1
    have h0 : 0 < k_n (x_pr x) := by rcases Nat.eq_zero_or_pos (k_n (x_pr x)) with h9 | h9; (rw [h9] at c1; exact absurd c1 (by decide)); exact h9
    have ga : ¬ k_n (x_pr x) = 0 := by omega
    refine lv_aload_n hx hb dX4_removeModel_20 rfl (lv_at hl 0 rfl) ?_
    refine va_get (D := D) (ci := 4) (v := .ref (a 7)) (C := RX4) (T := TX4) (N := 5) hx hb hts (fun _ h => List.mem_cons_of_mem _ (List.mem_append_left _ (List.mem_append_left _ (List.mem_append_left _ (List.mem_append_right _ h))))) hown hK hP 0 rfl rfl 3 (by decide) (hts _ (List.mem_of_getElem? (i := 3) rfl)) (fun _ h9 => h9) rfl dX4_removeModel_21 ?_
    refine kV (rV (As := []) (rest := []) ⟨hx, hb, hml, hown, hts⟩ (c_X3_dropModel l D cI cL cM _ a (x_pr x)  hn6 h0) (cwV 0 hts gX4_removeModel_X3_dropModel rfl rfl rfl (by decide +kernel) ⟨(Nat.le_of_ble_eq_true rfl), (Nat.le_of_ble_eq_true rfl)⟩) hE hP hD [7, 8, 9, 10, 11, 12, 13, 14, 15, 16, 17, 18, 19, 20, 21, 22, 23, 24, 25, 26, 27, 28, 29, 30, 31, 32, 33] segnd (mxW_prC cI cL cM a _) rfl rfl rfl hl.1 rfl (Nat.le_of_ble_eq_true rfl) dX4_removeModel_24 ⟨(Nat.le_of_ble_eq_true rfl), (Nat.le_of_ble_eq_true rfl)⟩) hP hD hS hA (is := [7, 8, 9, 10, 11, 12, 13, 14, 15, 16, 17, 18, 19, 20, 21, 22, 23, 24, 25, 26, 27, 28, 29, 30, 31, 32, 33]) (mxW_prC cI cL cM a _) (prW_fst cI cL cM a _ _) (fun H locs hP hD hS => ?_)
    rw [mxW_pr] at hP hD
    have hP : va_P D vwCl (mxW cI cL cM a (xs_pr x (k_dr (x_pr x)))) H := hP
    have hD : va_D A (mxW cI cL cM a (xs_pr x (k_dr (x_pr x)))) := hD
    refine lv_aload_n hx hb dX4_removeModel_27 rfl (lv_at hl 0 rfl) ?_
    refine va_get (D := D) (ci := 4) (v := .ref (a 7)) (C := RX4) (T := TX4) (N := 5) hx hb hts (fun _ h => List.mem_cons_of_mem _ (List.mem_append_left _ (List.mem_append_left _ (List.mem_append_left _ (List.mem_append_right _ h))))) hown hK hP 0 rfl rfl 3 (by decide) (hts _ (List.mem_of_getElem? (i := 3) rfl)) (fun _ h9 => h9) rfl dX4_removeModel_28 ?_
    refine va_get (D := D) (ci := 3) (v := .int (nI (k_n (k_dr (x_pr x))))) (C := RX3) (T := TX3) (N := 7) hx hb hts (fun _ h => List.mem_cons_of_mem _ (List.mem_append_left _ (List.mem_append_left _ (List.mem_append_right _ h)))) hown hK hP 7 rfl rfl 1 (by decide) (hts _ (List.mem_of_getElem? (i := 4) rfl)) (fun _ h9 => h9) rfl dX4_removeModel_31 ?_
    refine vx_ret ?_
    refine W.widen (k := 3) (n := 18) (Nat.le_of_ble_eq_true rfl) (Nat.le_of_ble_eq_true rfl) ?_
    exact W.iret (v := nI (k_n (k_dr (x_pr x)))) hx hb hr (fun t ht hW => ⟨⟨(nI (k_n (k_dr (x_pr x)))), (), rfl, ⟨by (rw [k_dr_n]), (by unfold cdRem; rw [if_neg ga])⟩, by rw [ht]; exact hP, hD⟩, hS.F ht⟩) hS.2.2 dX4_removeModel_34
  · replace c1 : ¬ (0 : Int32) < (nI (k_n (x_pr x))) := c1
    have ga : k_n (x_pr x) = 0 := by rcases Nat.eq_zero_or_pos (k_n (x_pr x)) with h9 | h9; exact h9; exact absurd ((nI_ltI (a := 0) (by omega) (by omega)).mpr h9) c1
    exact vx_throwS (text := "there is no model") (names := xNames) (sa := sa 63) (A := A) hx hb hnt hown (by decide) (by decide) (hts _ (List.mem_of_getElem? (i := 1) rfl)) (hts _ (List.mem_of_getElem? (i := 2) rfl)) (hEX.2.2.2.1 (63, "there is no model") (by decide)) (vx_hat (fun w hw => hts w ((fun _ h => List.mem_cons_of_mem _ (List.mem_append_right _ h)) w hw)) ise_bad (xW_use hEX.2.2.2.2 _)) ise_good hEX.2.1 hEX.2.2.1 hS (hl.1.trans hml.symm) dX4_removeModel_10 dX4_removeModel_13 dX4_removeModel_14 dX4_removeModel_16 dX4_removeModel_19 (fun x hx9 => (htab x hx9).elim) (Nat.le_of_ble_eq_true rfl) (Nat.le_of_ble_eq_true rfl) (Nat.le_of_ble_eq_true rfl) (Nat.le_of_ble_eq_true rfl) hlocks (fun t hvm hz hk => ⟨(), trivial, ⟨⟨rfl, (by unfold cdRem; rw [if_pos ga])⟩, kept_P hP hk, hD⟩, thF hS hz hk⟩) hS.2.2 (Nat.le_of_ble_eq_true rfl) (Nat.le_of_ble_eq_true rfl)

set_option maxHeartbeats 4000000 in
set_option maxRecDepth 100000 in
theorem c_X4_prediction (l : Launch) (hnt : l.stackTraces = false) (D : va_G) (cI cL cM : ClassId) (A : Nat → Prop) (sa : Nat → Nat) (a : Nat → Nat) (x : Mx) (q : Int32) (hn6 : k_n (x_pr x) ≤ 6) (hpl : ∀ j, j < k_n (x_pr x) → vp_in (o_pl (k_mo (x_pr x) j)) 512) : mIy l yX4_prediction wsX4_prediction ({ frames := 7, cells := 3, slots := 18, locals := 111 }) D (tB cI cL cM) A sa [.ref (a 0), .int q] (mxW cI cL cM a x) (o_gs (k_mo (x_pr x) q.toNatClampNeg)) (mxW cI cL cM a x) (cdMod x q = 0) (TH1 IOB (cdMod x q)) 3 18 := by
  refine vx_ofW (cc := cX4_prediction) (maxL := 2) (ret := (some .int)) (by decide) rfl ?_
  intro p e s m args below meth c s₁ B hml htab hv
  obtain ⟨rfl, hP, hEX, hD, hA⟩ := hv
  have hE := hEX.1
  have hK := hE.1
  have hx := B.exec
  have hb := B.bytes
  have hr := B.returns
  have hts := atoms_spec (ws := wsX4_prediction) B.pre
  have hown : s.vm.findClass RX4 = some m.cls := findClass_of_methodNamed B.named
  have hlocks := B.notSynchronized
  have hS : va_S A s.heap s.heap [] := va_S.rf
  have hl := lv_entry ([.ref (a 0), .int q]) (n := 2) (Nat.le_of_ble_eq_true rfl)
  rw [lg_entry_eq]
  generalize (lg_sl ([.ref (a 0), .int q]) ++ List.replicate (2 - (lg_sl ([.ref (a 0), .int q])).length) Slot.unset).toArray = ls at hl ⊢
  have hl : lv_has ls 2 [(0, .ref (a 0)), (1, .int q)] := hl
  refine lv_aload_n hx hb dX4_prediction_0 rfl (lv_at hl 0 rfl) ?_
  refine lv_iload_n hx hb dX4_prediction_1 rfl (lv_at hl 1 rfl) ?_
  refine kRxa (xVa (As := [.int q]) (rest := []) ⟨hx, hb, hml, hown, hts⟩ (c_X4_requireModel l hnt D cI cL cM _ sa a x q hn6) (cwV 1 hts gX4_prediction_X4_requireModel rfl rfl rfl (by decide +kernel) ⟨(Nat.le_of_ble_eq_true rfl), (Nat.le_of_ble_eq_true rfl)⟩) hEX hP hD hS hA 0 rfl rfl rfl hl.1 rfl (Nat.le_of_ble_eq_true rfl) dX4_prediction_2 ⟨(Nat.le_of_ble_eq_true rfl), (Nat.le_of_ble_eq_true rfl)⟩) hS (fun E9 ce9 q9 H locs hth9 hP hD hS h91 h92 h93 => ?_) (fun H locs gm hP hD hS => ?_)
  · exact vx_out (fun x hx9 => (htab x hx9).elim) hlocks h91 h92 h93 (fun t ht _ => ⟨(), trivial, ⟨⟨hth9.1, (by unfold cdMod; rw [if_pos hth9.2])⟩, by rw [ht]; exact hP, hD⟩, hS.F ht⟩) hS.2.2 (Nat.le_of_ble_eq_true rfl) (Nat.le_of_ble_eq_true rfl)
  have hP : va_P D vwCl (mxW cI cL cM a x) H := hP
  have hD : va_D A (mxW cI cL cM a x) := hD
  have hmn : q.toNatClampNeg < k_n (x_pr x) := isI_N (by omega) gm
  have hm6 : q.toNatClampNeg < 6 := by omega
  refine kI (rV (As := []) (rest := []) ⟨hx, hb, hml, hown, hts⟩ (c_X2_guess l D cI cL cM _ (a (11 + 4 * q.toNatClampNeg)) (a (12 + 4 * q.toNatClampNeg)) (a (13 + 4 * q.toNatClampNeg)) (a (14 + 4 * q.toNatClampNeg)) ((k_mo (x_pr x)) q.toNatClampNeg)  (hpl _ hmn)) (cwV 0 hts gX4_prediction_X2_guess rfl rfl rfl (by decide +kernel) ⟨(Nat.le_of_ble_eq_true rfl), (Nat.le_of_ble_eq_true rfl)⟩) hE hP hD [10 + 4 * q.toNatClampNeg, 11 + 4 * q.toNatClampNeg, 12 + 4 * q.toNatClampNeg, 13 + 4 * q.toNatClampNeg] (mxW_mond hm6) (mxW_moC cI cL cM a _ hm6) rfl rfl rfl hl.1 rfl (Nat.le_of_ble_eq_true rfl) dX4_prediction_5 ⟨(Nat.le_of_ble_eq_true rfl), (Nat.le_of_ble_eq_true rfl)⟩) hP hD hS hA (is := [10 + 4 * q.toNatClampNeg, 11 + 4 * q.toNatClampNeg, 12 + 4 * q.toNatClampNeg, 13 + 4 * q.toNatClampNeg]) (mxW_moC cI cL cM a _ hm6) rfl (fun H locs hP hD hS => ?_)
  rw [mxW_moput cI cL cM a _ hm6, mxW_moself cI cL cM a] at hP hD
  have hP : va_P D vwCl (mxW cI cL cM a x) H := hP
  have hD : va_D A (mxW cI cL cM a x) := hD
  refine vx_ret ?_
  refine W.widen (k := 3) (n := 18) (Nat.le_of_ble_eq_true rfl) (Nat.le_of_ble_eq_true rfl) ?_
  exact W.iret (v := (o_gs ((k_mo (x_pr x)) q.toNatClampNeg))) hx hb hr (fun t ht hW => ⟨⟨(o_gs ((k_mo (x_pr x)) q.toNatClampNeg)), (), rfl, ⟨by rfl, (by unfold cdMod; rw [if_neg gm])⟩, by rw [ht]; exact hP, hD⟩, hS.F ht⟩) hS.2.2 dX4_prediction_8

set_option maxHeartbeats 4000000 in
set_option maxRecDepth 100000 in
theorem c_X4_index (l : Launch) (hnt : l.stackTraces = false) (D : va_G) (cI cL cM : ClassId) (A : Nat → Prop) (sa : Nat → Nat) (a : Nat → Nat) (x : Mx) (q : Int32) (hn6 : k_n (x_pr x) ≤ 6) : mIy l yX4_index wsX4_index ({ frames := 7, cells := 3, slots := 18, locals := 111 }) D (tB cI cL cM) A sa [.ref (a 0), .int q] (mxW cI cL cM a x) (o_pl (k_mo (x_pr x) q.toNatClampNeg)) (mxW cI cL cM a x) (cdMod x q = 0) (TH1 IOB (cdMod x q)) 3 18 := by
  refine vx_ofW (cc := cX4_index) (maxL := 2) (ret := (some .int)) (by decide) rfl ?_
  intro p e s m args below meth c s₁ B hml htab hv
  obtain ⟨rfl, hP, hEX, hD, hA⟩ := hv
  have hE := hEX.1
  have hK := hE.1
  have hx := B.exec
  have hb := B.bytes
  have hr := B.returns
  have hts := atoms_spec (ws := wsX4_index) B.pre
  have hown : s.vm.findClass RX4 = some m.cls := findClass_of_methodNamed B.named
  have hlocks := B.notSynchronized
  have hS : va_S A s.heap s.heap [] := va_S.rf
  have hl := lv_entry ([.ref (a 0), .int q]) (n := 2) (Nat.le_of_ble_eq_true rfl)
  rw [lg_entry_eq]
  generalize (lg_sl ([.ref (a 0), .int q]) ++ List.replicate (2 - (lg_sl ([.ref (a 0), .int q])).length) Slot.unset).toArray = ls at hl ⊢
  have hl : lv_has ls 2 [(0, .ref (a 0)), (1, .int q)] := hl
  refine lv_aload_n hx hb dX4_index_0 rfl (lv_at hl 0 rfl) ?_
  refine lv_iload_n hx hb dX4_index_1 rfl (lv_at hl 1 rfl) ?_
  refine kRxa (xVa (As := [.int q]) (rest := []) ⟨hx, hb, hml, hown, hts⟩ (c_X4_requireModel l hnt D cI cL cM _ sa a x q hn6) (cwV 1 hts gX4_index_X4_requireModel rfl rfl rfl (by decide +kernel) ⟨(Nat.le_of_ble_eq_true rfl), (Nat.le_of_ble_eq_true rfl)⟩) hEX hP hD hS hA 0 rfl rfl rfl hl.1 rfl (Nat.le_of_ble_eq_true rfl) dX4_index_2 ⟨(Nat.le_of_ble_eq_true rfl), (Nat.le_of_ble_eq_true rfl)⟩) hS (fun E9 ce9 q9 H locs hth9 hP hD hS h91 h92 h93 => ?_) (fun H locs gm hP hD hS => ?_)
  · exact vx_out (fun x hx9 => (htab x hx9).elim) hlocks h91 h92 h93 (fun t ht _ => ⟨(), trivial, ⟨⟨hth9.1, (by unfold cdMod; rw [if_pos hth9.2])⟩, by rw [ht]; exact hP, hD⟩, hS.F ht⟩) hS.2.2 (Nat.le_of_ble_eq_true rfl) (Nat.le_of_ble_eq_true rfl)
  have hP : va_P D vwCl (mxW cI cL cM a x) H := hP
  have hD : va_D A (mxW cI cL cM a x) := hD
  have hmn : q.toNatClampNeg < k_n (x_pr x) := isI_N (by omega) gm
  have hm6 : q.toNatClampNeg < 6 := by omega
  refine va_get (D := D) (ci := 2) (v := .int (o_pl ((k_mo (x_pr x)) q.toNatClampNeg))) (C := RX2) (T := TX2) (N := 10) hx hb hts (fun _ h => List.mem_cons_of_mem _ (List.mem_append_left _ (List.mem_append_left _ (List.mem_append_left _ (List.mem_append_right _ h))))) hown hK hP (10 + 4 * q.toNatClampNeg) (mxW_o cI cL cM a _ hm6) rfl 9 (by decide) (hts _ (List.mem_of_getElem? (i := 1) rfl)) (fun _ h9 => h9) rfl dX4_index_5 ?_
  refine vx_ret ?_
  refine W.widen (k := 3) (n := 18) (Nat.le_of_ble_eq_true rfl) (Nat.le_of_ble_eq_true rfl) ?_
  exact W.iret (v := (o_pl ((k_mo (x_pr x)) q.toNatClampNeg))) hx hb hr (fun t ht hW => ⟨⟨(o_pl ((k_mo (x_pr x)) q.toNatClampNeg)), (), rfl, ⟨by rfl, (by unfold cdMod; rw [if_neg gm])⟩, by rw [ht]; exact hP, hD⟩, hS.F ht⟩) hS.2.2 dX4_index_8

set_option maxHeartbeats 4000000 in
set_option maxRecDepth 100000 in
theorem c_X4_collisions (l : Launch) (hnt : l.stackTraces = false) (D : va_G) (cI cL cM : ClassId) (A : Nat → Prop) (sa : Nat → Nat) (a : Nat → Nat) (x : Mx) (q : Int32) (hn6 : k_n (x_pr x) ≤ 6) : mIy l yX4_collisions wsX4_collisions ({ frames := 7, cells := 3, slots := 18, locals := 111 }) D (tB cI cL cM) A sa [.ref (a 0), .int q] (mxW cI cL cM a x) (o_cn (k_mo (x_pr x) q.toNatClampNeg)) (mxW cI cL cM a x) (cdMod x q = 0) (TH1 IOB (cdMod x q)) 3 18 := by
  refine vx_ofW (cc := cX4_collisions) (maxL := 2) (ret := (some .int)) (by decide) rfl ?_
  intro p e s m args below meth c s₁ B hml htab hv
  obtain ⟨rfl, hP, hEX, hD, hA⟩ := hv
  have hE := hEX.1
  have hK := hE.1
  have hx := B.exec
  have hb := B.bytes
  have hr := B.returns
  have hts := atoms_spec (ws := wsX4_collisions) B.pre
  have hown : s.vm.findClass RX4 = some m.cls := findClass_of_methodNamed B.named
  have hlocks := B.notSynchronized
  have hS : va_S A s.heap s.heap [] := va_S.rf
  have hl := lv_entry ([.ref (a 0), .int q]) (n := 2) (Nat.le_of_ble_eq_true rfl)
  rw [lg_entry_eq]
  generalize (lg_sl ([.ref (a 0), .int q]) ++ List.replicate (2 - (lg_sl ([.ref (a 0), .int q])).length) Slot.unset).toArray = ls at hl ⊢
  have hl : lv_has ls 2 [(0, .ref (a 0)), (1, .int q)] := hl
  refine lv_aload_n hx hb dX4_collisions_0 rfl (lv_at hl 0 rfl) ?_
  refine lv_iload_n hx hb dX4_collisions_1 rfl (lv_at hl 1 rfl) ?_
  refine kRxa (xVa (As := [.int q]) (rest := []) ⟨hx, hb, hml, hown, hts⟩ (c_X4_requireModel l hnt D cI cL cM _ sa a x q hn6) (cwV 1 hts gX4_collisions_X4_requireModel rfl rfl rfl (by decide +kernel) ⟨(Nat.le_of_ble_eq_true rfl), (Nat.le_of_ble_eq_true rfl)⟩) hEX hP hD hS hA 0 rfl rfl rfl hl.1 rfl (Nat.le_of_ble_eq_true rfl) dX4_collisions_2 ⟨(Nat.le_of_ble_eq_true rfl), (Nat.le_of_ble_eq_true rfl)⟩) hS (fun E9 ce9 q9 H locs hth9 hP hD hS h91 h92 h93 => ?_) (fun H locs gm hP hD hS => ?_)
  · exact vx_out (fun x hx9 => (htab x hx9).elim) hlocks h91 h92 h93 (fun t ht _ => ⟨(), trivial, ⟨⟨hth9.1, (by unfold cdMod; rw [if_pos hth9.2])⟩, by rw [ht]; exact hP, hD⟩, hS.F ht⟩) hS.2.2 (Nat.le_of_ble_eq_true rfl) (Nat.le_of_ble_eq_true rfl)
  have hP : va_P D vwCl (mxW cI cL cM a x) H := hP
  have hD : va_D A (mxW cI cL cM a x) := hD
  have hmn : q.toNatClampNeg < k_n (x_pr x) := isI_N (by omega) gm
  have hm6 : q.toNatClampNeg < 6 := by omega
  refine va_get (D := D) (ci := 2) (v := .int (o_cn ((k_mo (x_pr x)) q.toNatClampNeg))) (C := RX2) (T := TX2) (N := 10) hx hb hts (fun _ h => List.mem_cons_of_mem _ (List.mem_append_left _ (List.mem_append_left _ (List.mem_append_left _ (List.mem_append_right _ h))))) hown hK hP (10 + 4 * q.toNatClampNeg) (mxW_o cI cL cM a _ hm6) rfl 6 (by decide) (hts _ (List.mem_of_getElem? (i := 1) rfl)) (fun _ h9 => h9) rfl dX4_collisions_5 ?_
  refine vx_ret ?_
  refine W.widen (k := 3) (n := 18) (Nat.le_of_ble_eq_true rfl) (Nat.le_of_ble_eq_true rfl) ?_
  exact W.iret (v := (o_cn ((k_mo (x_pr x)) q.toNatClampNeg))) hx hb hr (fun t ht hW => ⟨⟨(o_cn ((k_mo (x_pr x)) q.toNatClampNeg)), (), rfl, ⟨by rfl, (by unfold cdMod; rw [if_neg gm])⟩, by rw [ht]; exact hP, hD⟩, hS.F ht⟩) hS.2.2 dX4_collisions_8

set_option maxHeartbeats 4000000 in
set_option maxRecDepth 100000 in
theorem c_X4_counter (l : Launch) (hnt : l.stackTraces = false) (D : va_G) (cI cL cM : ClassId) (A : Nat → Prop) (sa : Nat → Nat) (a : Nat → Nat) (x : Mx) (q i : Int32) (hn6 : k_n (x_pr x) ≤ 6) (hts9 : ∀ j, j < k_n (x_pr x) → 0 < (o_ts (k_mo (x_pr x) j)).toInt ∧ (o_ts (k_mo (x_pr x) j)).toInt ≤ 512) : mIy l yX4_counter wsX4_counter ({ frames := 7, cells := 3, slots := 18, locals := 111 }) D (tB cI cL cM) A sa [.ref (a 0), .int q, .int i] (mxW cI cL cM a x) (o_co (k_mo (x_pr x) q.toNatClampNeg) i.toNatClampNeg) (mxW cI cL cM a x) (cdCnt x q i = 0) (TH1 IOB (cdCnt x q i)) 3 18 := by
  refine vx_ofW (cc := cX4_counter) (maxL := 4) (ret := (some .int)) (by decide) rfl ?_
  intro p e s m args below meth c s₁ B hml htab hv
  obtain ⟨rfl, hP, hEX, hD, hA⟩ := hv
  have hE := hEX.1
  have hK := hE.1
  have hx := B.exec
  have hb := B.bytes
  have hr := B.returns
  have hts := atoms_spec (ws := wsX4_counter) B.pre
  have hown : s.vm.findClass RX4 = some m.cls := findClass_of_methodNamed B.named
  have hlocks := B.notSynchronized
  have hS : va_S A s.heap s.heap [] := va_S.rf
  have hl := lv_entry ([.ref (a 0), .int q, .int i]) (n := 4) (Nat.le_of_ble_eq_true rfl)
  rw [lg_entry_eq]
  generalize (lg_sl ([.ref (a 0), .int q, .int i]) ++ List.replicate (4 - (lg_sl ([.ref (a 0), .int q, .int i])).length) Slot.unset).toArray = ls at hl ⊢
  have hl : lv_has ls 4 [(0, .ref (a 0)), (1, .int q), (2, .int i)] := hl
  refine lv_aload_n hx hb dX4_counter_0 rfl (lv_at hl 0 rfl) ?_
  refine lv_iload_n hx hb dX4_counter_1 rfl (lv_at hl 1 rfl) ?_
  refine kRxa (xVa (As := [.int q]) (rest := []) ⟨hx, hb, hml, hown, hts⟩ (c_X4_requireModel l hnt D cI cL cM _ sa a x q hn6) (cwV 1 hts gX4_counter_X4_requireModel rfl rfl rfl (by decide +kernel) ⟨(Nat.le_of_ble_eq_true rfl), (Nat.le_of_ble_eq_true rfl)⟩) hEX hP hD hS hA 0 rfl rfl rfl hl.1 rfl (Nat.le_of_ble_eq_true rfl) dX4_counter_2 ⟨(Nat.le_of_ble_eq_true rfl), (Nat.le_of_ble_eq_true rfl)⟩) hS (fun E9 ce9 q9 H locs hth9 hP hD hS h91 h92 h93 => ?_) (fun H locs gm hP hD hS => ?_)
  · exact vx_out (fun x hx9 => (htab x hx9).elim) hlocks h91 h92 h93 (fun t ht _ => ⟨(), trivial, ⟨⟨hth9.1, (by unfold cdCnt; rw [if_pos hth9.2])⟩, by rw [ht]; exact hP, hD⟩, hS.F ht⟩) hS.2.2 (Nat.le_of_ble_eq_true rfl) (Nat.le_of_ble_eq_true rfl)
  have hP : va_P D vwCl (mxW cI cL cM a x) H := hP
  have hD : va_D A (mxW cI cL cM a x) := hD
  have hmn : q.toNatClampNeg < k_n (x_pr x) := isI_N (by omega) gm
  have hm6 : q.toNatClampNeg < 6 := by omega
  refine lv_astore_n (lv' := [(3, .ref (a (11 + 4 * q.toNatClampNeg))), (0, .ref (a 0)), (1, .int q), (2, .int i)]) hx hb dX4_counter_5 rfl hl (by decide) rfl (fun ls hl => ?_)
  refine lv_iload_n hx hb dX4_counter_6 rfl (lv_at hl 3 rfl) ?_
  refine lv_if_lt (tgt := 18) hx hb dX4_counter_7 (by decide) (fun c1 => ?_) (fun c1 => ?_)
  · replace c1 : i < (0 : Int32) := c1
    have gi : isI i 0 (o_ts (k_mo (x_pr x) q.toNatClampNeg) - 1) = 0 := isI_a c1
    exact vx_throwS (text := "there is no such counter") (names := xNames) (sa := sa 129) (A := A) hx hb hnt hown (by decide) (by decide) (hts _ (List.mem_of_getElem? (i := 1) rfl)) (hts _ (List.mem_of_getElem? (i := 2) rfl)) (hEX.2.2.2.1 (129, "there is no such counter") (by decide)) (vx_hat (fun w hw => hts w ((fun _ h => List.mem_cons_of_mem _ (List.mem_append_right _ h)) w hw)) iob_bad (xW_use hEX.2.2.2.2 _)) iob_good hEX.2.1 hEX.2.2.1 hS (hl.1.trans hml.symm) dX4_counter_18 dX4_counter_21 dX4_counter_22 dX4_counter_24 dX4_counter_27 (fun x hx9 => (htab x hx9).elim) (Nat.le_of_ble_eq_true rfl) (Nat.le_of_ble_eq_true rfl) (Nat.le_of_ble_eq_true rfl) (Nat.le_of_ble_eq_true rfl) hlocks (fun t hvm hz hk => ⟨(), trivial, ⟨⟨rfl, (by unfold cdCnt; rw [if_neg gm, if_pos gi])⟩, kept_P hP hk, hD⟩, thF hS hz hk⟩) hS.2.2 (Nat.le_of_ble_eq_true rfl) (Nat.le_of_ble_eq_true rfl)
  · replace c1 : ¬ i < (0 : Int32) := c1
    refine lv_iload_n hx hb dX4_counter_10 rfl (lv_at hl 3 rfl) ?_
    refine lv_aload_n hx hb dX4_counter_11 rfl (lv_at hl 0 rfl) ?_
    refine kI (rV (As := []) (rest := [.int i]) ⟨hx, hb, hml, hown, hts⟩ (c_X2_tableSize l D cI cL cM _ (a (11 + 4 * q.toNatClampNeg)) (a (12 + 4 * q.toNatClampNeg)) (a (13 + 4 * q.toNatClampNeg)) (a (14 + 4 * q.toNatClampNeg)) ((k_mo (x_pr x)) q.toNatClampNeg)  ) (cwV 0 hts gX4_counter_X2_tableSize rfl rfl rfl (by decide +kernel) ⟨(Nat.le_of_ble_eq_true rfl), (Nat.le_of_ble_eq_true rfl)⟩) hE hP hD [10 + 4 * q.toNatClampNeg, 11 + 4 * q.toNatClampNeg, 12 + 4 * q.toNatClampNeg, 13 + 4 * q.toNatClampNeg] (mxW_mond hm6) (mxW_moC cI cL cM a _ hm6) rfl rfl rfl hl.1 rfl (Nat.le_of_ble_eq_true rfl) dX4_counter_12 ⟨(Nat.le_of_ble_eq_true rfl), (Nat.le_of_ble_eq_true rfl)⟩) hP hD hS hA (is := [10 + 4 * q.toNatClampNeg, 11 + 4 * q.toNatClampNeg, 12 + 4 * q.toNatClampNeg, 13 + 4 * q.toNatClampNeg]) (mxW_moC cI cL cM a _ hm6) rfl (fun H locs hP hD hS => ?_)
    rw [mxW_moput cI cL cM a _ hm6, mxW_moself cI cL cM a] at hP hD
    have hP : va_P D vwCl (mxW cI cL cM a x) H := hP
    have hD : va_D A (mxW cI cL cM a x) := hD
    refine lv_icmp_lt (tgt := 28) hx hb dX4_counter_15 (by decide) (fun c2 => ?_) (fun c2 => ?_)
    · replace c2 : i < (o_ts ((k_mo (x_pr x)) q.toNatClampNeg)) := c2
      obtain ⟨gi, hix⟩ := ts5 (hts9 _ hmn).1 (hts9 _ hmn).2 c1 c2
      refine lv_aload_n hx hb dX4_counter_28 rfl (lv_at hl 0 rfl) ?_
      refine va_get (D := D) (ci := 2) (v := .ref (a (12 + 4 * q.toNatClampNeg))) (C := RX2) (T := TX2) (N := 10) hx hb hts (fun _ h => List.mem_cons_of_mem _ (List.mem_append_left _ (List.mem_append_left _ (List.mem_append_left _ (List.mem_append_right _ h))))) hown hK hP (10 + 4 * q.toNatClampNeg) (mxW_o cI cL cM a _ hm6) rfl 3 (by decide) (hts _ (List.mem_of_getElem? (i := 3) rfl)) (fun _ h9 => h9) rfl dX4_counter_29 ?_
      refine lv_iload_n hx hb dX4_counter_32 rfl (lv_at hl 3 rfl) ?_
      refine va_iald hx hb hK hP (11 + 4 * q.toNatClampNeg) 0 (mxW_c cI cL cM a _ hm6) rfl (hix) dX4_counter_33 ?_
      refine vx_ret ?_
      refine W.widen (k := 3) (n := 18) (Nat.le_of_ble_eq_true rfl) (Nat.le_of_ble_eq_true rfl) ?_
      exact W.iret (v := (o_co ((k_mo (x_pr x)) q.toNatClampNeg)) i.toNatClampNeg) hx hb hr (fun t ht hW => ⟨⟨((o_co ((k_mo (x_pr x)) q.toNatClampNeg)) i.toNatClampNeg), (), rfl, ⟨by rfl, (by unfold cdCnt; rw [if_neg gm, if_neg gi])⟩, by rw [ht]; exact hP, hD⟩, hS.F ht⟩) hS.2.2 dX4_counter_34
    · replace c2 : ¬ i < (o_ts ((k_mo (x_pr x)) q.toNatClampNeg)) := c2
      have gi := ts6 (hts9 _ hmn).1 c2
      exact vx_throwS (text := "there is no such counter") (names := xNames) (sa := sa 129) (A := A) hx hb hnt hown (by decide) (by decide) (hts _ (List.mem_of_getElem? (i := 1) rfl)) (hts _ (List.mem_of_getElem? (i := 2) rfl)) (hEX.2.2.2.1 (129, "there is no such counter") (by decide)) (vx_hat (fun w hw => hts w ((fun _ h => List.mem_cons_of_mem _ (List.mem_append_right _ h)) w hw)) iob_bad (xW_use hEX.2.2.2.2 _)) iob_good hEX.2.1 hEX.2.2.1 hS (hl.1.trans hml.symm) dX4_counter_18 dX4_counter_21 dX4_counter_22 dX4_counter_24 dX4_counter_27 (fun x hx9 => (htab x hx9).elim) (Nat.le_of_ble_eq_true rfl) (Nat.le_of_ble_eq_true rfl) (Nat.le_of_ble_eq_true rfl) (Nat.le_of_ble_eq_true rfl) hlocks (fun t hvm hz hk => ⟨(), trivial, ⟨⟨rfl, (by unfold cdCnt; rw [if_neg gm, if_pos gi])⟩, kept_P hP hk, hD⟩, thF hS hz hk⟩) hS.2.2 (Nat.le_of_ble_eq_true rfl) (Nat.le_of_ble_eq_true rfl)

set_option maxHeartbeats 4000000 in
set_option maxRecDepth 100000 in
theorem c_X4_weight (l : Launch) (hnt : l.stackTraces = false) (D : va_G) (cI cL cM : ClassId) (A : Nat → Prop) (sa : Nat → Nat) (a : Nat → Nat) (x : Mx) (q i : Int32) (hn6 : k_n (x_pr x) ≤ 6) : mIy l yX4_weight wsX4_weight ({ frames := 7, cells := 3, slots := 18, locals := 111 }) D (tB cI cL cM) A sa [.ref (a 0), .int q, .int i] (mxW cI cL cM a x) (o_we (k_mo (x_pr x) q.toNatClampNeg) i.toNatClampNeg) (mxW cI cL cM a x) (cdWei x q i = 0) (TH1 IOB (cdWei x q i)) 3 18 := by
  refine vx_ofW (cc := cX4_weight) (maxL := 4) (ret := (some .int)) (by decide) rfl ?_
  intro p e s m args below meth c s₁ B hml htab hv
  obtain ⟨rfl, hP, hEX, hD, hA⟩ := hv
  have hE := hEX.1
  have hK := hE.1
  have hx := B.exec
  have hb := B.bytes
  have hr := B.returns
  have hts := atoms_spec (ws := wsX4_weight) B.pre
  have hown : s.vm.findClass RX4 = some m.cls := findClass_of_methodNamed B.named
  have hlocks := B.notSynchronized
  have hS : va_S A s.heap s.heap [] := va_S.rf
  have hl := lv_entry ([.ref (a 0), .int q, .int i]) (n := 4) (Nat.le_of_ble_eq_true rfl)
  rw [lg_entry_eq]
  generalize (lg_sl ([.ref (a 0), .int q, .int i]) ++ List.replicate (4 - (lg_sl ([.ref (a 0), .int q, .int i])).length) Slot.unset).toArray = ls at hl ⊢
  have hl : lv_has ls 4 [(0, .ref (a 0)), (1, .int q), (2, .int i)] := hl
  refine lv_aload_n hx hb dX4_weight_0 rfl (lv_at hl 0 rfl) ?_
  refine lv_iload_n hx hb dX4_weight_1 rfl (lv_at hl 1 rfl) ?_
  refine kRxa (xVa (As := [.int q]) (rest := []) ⟨hx, hb, hml, hown, hts⟩ (c_X4_requireModel l hnt D cI cL cM _ sa a x q hn6) (cwV 1 hts gX4_weight_X4_requireModel rfl rfl rfl (by decide +kernel) ⟨(Nat.le_of_ble_eq_true rfl), (Nat.le_of_ble_eq_true rfl)⟩) hEX hP hD hS hA 0 rfl rfl rfl hl.1 rfl (Nat.le_of_ble_eq_true rfl) dX4_weight_2 ⟨(Nat.le_of_ble_eq_true rfl), (Nat.le_of_ble_eq_true rfl)⟩) hS (fun E9 ce9 q9 H locs hth9 hP hD hS h91 h92 h93 => ?_) (fun H locs gm hP hD hS => ?_)
  · exact vx_out (fun x hx9 => (htab x hx9).elim) hlocks h91 h92 h93 (fun t ht _ => ⟨(), trivial, ⟨⟨hth9.1, (by unfold cdWei; rw [if_pos hth9.2])⟩, by rw [ht]; exact hP, hD⟩, hS.F ht⟩) hS.2.2 (Nat.le_of_ble_eq_true rfl) (Nat.le_of_ble_eq_true rfl)
  have hP : va_P D vwCl (mxW cI cL cM a x) H := hP
  have hD : va_D A (mxW cI cL cM a x) := hD
  have hmn : q.toNatClampNeg < k_n (x_pr x) := isI_N (by omega) gm
  have hm6 : q.toNatClampNeg < 6 := by omega
  refine lv_astore_n (lv' := [(3, .ref (a (11 + 4 * q.toNatClampNeg))), (0, .ref (a 0)), (1, .int q), (2, .int i)]) hx hb dX4_weight_5 rfl hl (by decide) rfl (fun ls hl => ?_)
  refine lv_iload_n hx hb dX4_weight_6 rfl (lv_at hl 3 rfl) ?_
  refine lv_if_lt (tgt := 16) hx hb dX4_weight_7 (by decide) (fun c1 => ?_) (fun c1 => ?_)
  · replace c1 : i < (0 : Int32) := c1
    have gi : isI i 0 7 = 0 := isI_a c1
    exact vx_throwS (text := "phase is not 0 to 7") (names := xNames) (sa := sa 136) (A := A) hx hb hnt hown (by decide) (by decide) (hts _ (List.mem_of_getElem? (i := 1) rfl)) (hts _ (List.mem_of_getElem? (i := 2) rfl)) (hEX.2.2.2.1 (136, "phase is not 0 to 7") (by decide)) (vx_hat (fun w hw => hts w ((fun _ h => List.mem_cons_of_mem _ (List.mem_append_right _ h)) w hw)) iob_bad (xW_use hEX.2.2.2.2 _)) iob_good hEX.2.1 hEX.2.2.1 hS (hl.1.trans hml.symm) dX4_weight_16 dX4_weight_19 dX4_weight_20 dX4_weight_22 dX4_weight_25 (fun x hx9 => (htab x hx9).elim) (Nat.le_of_ble_eq_true rfl) (Nat.le_of_ble_eq_true rfl) (Nat.le_of_ble_eq_true rfl) (Nat.le_of_ble_eq_true rfl) hlocks (fun t hvm hz hk => ⟨(), trivial, ⟨⟨rfl, (by unfold cdWei; rw [if_neg gm, if_pos gi])⟩, kept_P hP hk, hD⟩, thF hS hz hk⟩) hS.2.2 (Nat.le_of_ble_eq_true rfl) (Nat.le_of_ble_eq_true rfl)
  · replace c1 : ¬ i < (0 : Int32) := c1
    refine lv_iload_n hx hb dX4_weight_10 rfl (lv_at hl 3 rfl) ?_
    refine lv_bipush (v := 8) hx hb dX4_weight_11 (by decide) ?_
    refine lv_icmp_lt (tgt := 26) hx hb dX4_weight_13 (by decide) (fun c2 => ?_) (fun c2 => ?_)
    · replace c2 : i < (8 : Int32) := c2
      obtain ⟨gi, hix⟩ := lit_lt (n := 7) (by omega) c1 c2
      have gi : ¬ isI i 0 7 = 0 := gi
      refine lv_aload_n hx hb dX4_weight_26 rfl (lv_at hl 0 rfl) ?_
      refine va_get (D := D) (ci := 2) (v := .ref (a (14 + 4 * q.toNatClampNeg))) (C := RX2) (T := TX2) (N := 10) hx hb hts (fun _ h => List.mem_cons_of_mem _ (List.mem_append_left _ (List.mem_append_left _ (List.mem_append_left _ (List.mem_append_right _ h))))) hown hK hP (10 + 4 * q.toNatClampNeg) (mxW_o cI cL cM a _ hm6) rfl 5 (by decide) (hts _ (List.mem_of_getElem? (i := 3) rfl)) (fun _ h9 => h9) rfl dX4_weight_27 ?_
      refine lv_iload_n hx hb dX4_weight_30 rfl (lv_at hl 3 rfl) ?_
      refine va_iald hx hb hK hP (13 + 4 * q.toNatClampNeg) 0 (mxW_w cI cL cM a _ hm6) rfl (hix) dX4_weight_31 ?_
      refine vx_ret ?_
      refine W.widen (k := 3) (n := 18) (Nat.le_of_ble_eq_true rfl) (Nat.le_of_ble_eq_true rfl) ?_
      exact W.iret (v := (o_we ((k_mo (x_pr x)) q.toNatClampNeg)) i.toNatClampNeg) hx hb hr (fun t ht hW => ⟨⟨((o_we ((k_mo (x_pr x)) q.toNatClampNeg)) i.toNatClampNeg), (), rfl, ⟨by rfl, (by unfold cdWei; rw [if_neg gm, if_neg gi])⟩, by rw [ht]; exact hP, hD⟩, hS.F ht⟩) hS.2.2 dX4_weight_32
    · replace c2 : ¬ i < (8 : Int32) := c2
      have gi : isI i 0 7 = 0 := lit_ge (n := 7) (by omega) c2
      exact vx_throwS (text := "phase is not 0 to 7") (names := xNames) (sa := sa 136) (A := A) hx hb hnt hown (by decide) (by decide) (hts _ (List.mem_of_getElem? (i := 1) rfl)) (hts _ (List.mem_of_getElem? (i := 2) rfl)) (hEX.2.2.2.1 (136, "phase is not 0 to 7") (by decide)) (vx_hat (fun w hw => hts w ((fun _ h => List.mem_cons_of_mem _ (List.mem_append_right _ h)) w hw)) iob_bad (xW_use hEX.2.2.2.2 _)) iob_good hEX.2.1 hEX.2.2.1 hS (hl.1.trans hml.symm) dX4_weight_16 dX4_weight_19 dX4_weight_20 dX4_weight_22 dX4_weight_25 (fun x hx9 => (htab x hx9).elim) (Nat.le_of_ble_eq_true rfl) (Nat.le_of_ble_eq_true rfl) (Nat.le_of_ble_eq_true rfl) (Nat.le_of_ble_eq_true rfl) hlocks (fun t hvm hz hk => ⟨(), trivial, ⟨⟨rfl, (by unfold cdWei; rw [if_neg gm, if_pos gi])⟩, kept_P hP hk, hD⟩, thF hS hz hk⟩) hS.2.2 (Nat.le_of_ble_eq_true rfl) (Nat.le_of_ble_eq_true rfl)

set_option maxHeartbeats 4000000 in
set_option maxRecDepth 100000 in
theorem c_X4_history (l : Launch) (hnt : l.stackTraces = false) (D : va_G) (cI cL cM : ClassId) (A : Nat → Prop) (sa : Nat → Nat) (a : Nat → Nat) (x : Mx) (q : Int32) : mIy l yX4_history wsX4_history ({ frames := 6, cells := 3, slots := 18, locals := 90 }) D (tB cI cL cM) A sa [.ref (a 0), .int q] (mxW cI cL cM a x) (k_la (x_pr x) q.toNatClampNeg) (mxW cI cL cM a x) (cdHis q = 0) (TH1 IOB (cdHis q)) 3 18 := by
  refine vx_ofW (cc := cX4_history) (maxL := 2) (ret := (some .int)) (by decide) rfl ?_
  intro p e s m args below meth c s₁ B hml htab hv
  obtain ⟨rfl, hP, hEX, hD, hA⟩ := hv
  have hE := hEX.1
  have hK := hE.1
  have hx := B.exec
  have hb := B.bytes
  have hr := B.returns
  have hts := atoms_spec (ws := wsX4_history) B.pre
  have hown : s.vm.findClass RX4 = some m.cls := findClass_of_methodNamed B.named
  have hlocks := B.notSynchronized
  have hS : va_S A s.heap s.heap [] := va_S.rf
  have hl := lv_entry ([.ref (a 0), .int q]) (n := 2) (Nat.le_of_ble_eq_true rfl)
  rw [lg_entry_eq]
  generalize (lg_sl ([.ref (a 0), .int q]) ++ List.replicate (2 - (lg_sl ([.ref (a 0), .int q])).length) Slot.unset).toArray = ls at hl ⊢
  have hl : lv_has ls 2 [(0, .ref (a 0)), (1, .int q)] := hl
  refine lv_iload_n hx hb dX4_history_0 rfl (lv_at hl 1 rfl) ?_
  refine lv_if_lt (tgt := 9) hx hb dX4_history_1 (by decide) (fun c1 => ?_) (fun c1 => ?_)
  · replace c1 : q < (0 : Int32) := c1
    have gi : isI q 0 2 = 0 := isI_a c1
    exact vx_throwS (text := "back is not 0 to 2") (names := xNames) (sa := sa 147) (A := A) hx hb hnt hown (by decide) (by decide) (hts _ (List.mem_of_getElem? (i := 1) rfl)) (hts _ (List.mem_of_getElem? (i := 2) rfl)) (hEX.2.2.2.1 (147, "back is not 0 to 2") (by decide)) (vx_hat (fun w hw => hts w ((fun _ h => List.mem_cons_of_mem _ (List.mem_append_right _ h)) w hw)) iob_bad (xW_use hEX.2.2.2.2 _)) iob_good hEX.2.1 hEX.2.2.1 hS (hl.1.trans hml.symm) dX4_history_9 dX4_history_12 dX4_history_13 dX4_history_15 dX4_history_18 (fun x hx9 => (htab x hx9).elim) (Nat.le_of_ble_eq_true rfl) (Nat.le_of_ble_eq_true rfl) (Nat.le_of_ble_eq_true rfl) (Nat.le_of_ble_eq_true rfl) hlocks (fun t hvm hz hk => ⟨(), trivial, ⟨⟨rfl, (by unfold cdHis; rw [if_pos gi])⟩, kept_P hP hk, hD⟩, thF hS hz hk⟩) hS.2.2 (Nat.le_of_ble_eq_true rfl) (Nat.le_of_ble_eq_true rfl)
  · replace c1 : ¬ q < (0 : Int32) := c1
    refine lv_iload_n hx hb dX4_history_4 rfl (lv_at hl 1 rfl) ?_
    refine lv_iconst (v := 3) hx hb dX4_history_5 (by decide) ?_
    refine lv_icmp_lt (tgt := 19) hx hb dX4_history_6 (by decide) (fun c2 => ?_) (fun c2 => ?_)
    · replace c2 : q < (3 : Int32) := c2
      obtain ⟨gi, hix⟩ := lit_lt (n := 2) (by omega) c1 c2
      have gi : ¬ isI q 0 2 = 0 := gi
      refine lv_aload_n hx hb dX4_history_19 rfl (lv_at hl 0 rfl) ?_
      refine va_get (D := D) (ci := 4) (v := .ref (a 7)) (C := RX4) (T := TX4) (N := 5) hx hb hts (fun _ h => List.mem_cons_of_mem _ (List.mem_append_left _ (List.mem_append_left _ (List.mem_append_right _ h)))) hown hK hP 0 rfl rfl 3 (by decide) (hts _ (List.mem_of_getElem? (i := 3) rfl)) (fun _ h9 => h9) rfl dX4_history_20 ?_
      refine va_get (D := D) (ci := 3) (v := .ref (a 9)) (C := RX3) (T := TX3) (N := 7) hx hb hts (fun _ h => List.mem_cons_of_mem _ (List.mem_append_left _ (List.mem_append_right _ h))) hown hK hP 7 rfl rfl 2 (by decide) (hts _ (List.mem_of_getElem? (i := 4) rfl)) (fun _ h9 => h9) rfl dX4_history_23 ?_
      refine lv_iload_n hx hb dX4_history_26 rfl (lv_at hl 1 rfl) ?_
      refine va_iald hx hb hK hP 9 0 rfl rfl (hix) dX4_history_27 ?_
      refine vx_ret ?_
      refine W.widen (k := 3) (n := 18) (Nat.le_of_ble_eq_true rfl) (Nat.le_of_ble_eq_true rfl) ?_
      exact W.iret (v := (k_la (x_pr x)) q.toNatClampNeg) hx hb hr (fun t ht hW => ⟨⟨((k_la (x_pr x)) q.toNatClampNeg), (), rfl, ⟨by rfl, (by unfold cdHis; rw [if_neg gi])⟩, by rw [ht]; exact hP, hD⟩, hS.F ht⟩) hS.2.2 dX4_history_28
    · replace c2 : ¬ q < (3 : Int32) := c2
      have gi : isI q 0 2 = 0 := lit_ge (n := 2) (by omega) c2
      exact vx_throwS (text := "back is not 0 to 2") (names := xNames) (sa := sa 147) (A := A) hx hb hnt hown (by decide) (by decide) (hts _ (List.mem_of_getElem? (i := 1) rfl)) (hts _ (List.mem_of_getElem? (i := 2) rfl)) (hEX.2.2.2.1 (147, "back is not 0 to 2") (by decide)) (vx_hat (fun w hw => hts w ((fun _ h => List.mem_cons_of_mem _ (List.mem_append_right _ h)) w hw)) iob_bad (xW_use hEX.2.2.2.2 _)) iob_good hEX.2.1 hEX.2.2.1 hS (hl.1.trans hml.symm) dX4_history_9 dX4_history_12 dX4_history_13 dX4_history_15 dX4_history_18 (fun x hx9 => (htab x hx9).elim) (Nat.le_of_ble_eq_true rfl) (Nat.le_of_ble_eq_true rfl) (Nat.le_of_ble_eq_true rfl) (Nat.le_of_ble_eq_true rfl) hlocks (fun t hvm hz hk => ⟨(), trivial, ⟨⟨rfl, (by unfold cdHis; rw [if_pos gi])⟩, kept_P hP hk, hD⟩, thF hS hz hk⟩) hS.2.2 (Nat.le_of_ble_eq_true rfl) (Nat.le_of_ble_eq_true rfl)

set_option maxHeartbeats 4000000 in
set_option maxRecDepth 100000 in
theorem c_X4_byteAt (l : Launch) (hnt : l.stackTraces = false) (D : va_G) (cI cL cM : ClassId) (A : Nat → Prop) (sa : Nat → Nat) (a : Nat → Nat) (x : Mx) (q : Int32) (hc9 : q_c (x_tx x) ≤ 80) : mIy l yX4_byteAt wsX4_byteAt ({ frames := 7, cells := 3, slots := 18, locals := 111 }) D (tB cI cL cM) A sa [.ref (a 0), .int q] (mxW cI cL cM a x) (q_at (x_tx x) q) (mxW cI cL cM a x) (cdPlc (x_tx x) q = 0) (TH1 IOB (cdPlc (x_tx x) q)) 3 18 := by
  refine vx_ofW (cc := cX4_byteAt) (maxL := 2) (ret := (some .int)) (by decide) rfl ?_
  intro p e s m args below meth c s₁ B hml htab hv
  obtain ⟨rfl, hP, hEX, hD, hA⟩ := hv
  have hE := hEX.1
  have hK := hE.1
  have hx := B.exec
  have hb := B.bytes
  have hr := B.returns
  have hts := atoms_spec (ws := wsX4_byteAt) B.pre
  have hown : s.vm.findClass RX4 = some m.cls := findClass_of_methodNamed B.named
  have hlocks := B.notSynchronized
  have hS : va_S A s.heap s.heap [] := va_S.rf
  have hl := lv_entry ([.ref (a 0), .int q]) (n := 2) (Nat.le_of_ble_eq_true rfl)
  rw [lg_entry_eq]
  generalize (lg_sl ([.ref (a 0), .int q]) ++ List.replicate (2 - (lg_sl ([.ref (a 0), .int q])).length) Slot.unset).toArray = ls at hl ⊢
  have hl : lv_has ls 2 [(0, .ref (a 0)), (1, .int q)] := hl
  refine lv_aload_n hx hb dX4_byteAt_0 rfl (lv_at hl 0 rfl) ?_
  refine va_get (D := D) (ci := 4) (v := .ref (a 1)) (C := RX4) (T := TX4) (N := 5) hx hb hts (fun _ h => List.mem_cons_of_mem _ (List.mem_append_left _ (List.mem_append_left _ (List.mem_append_right _ h)))) hown hK hP 0 rfl rfl 0 (by decide) (hts _ (List.mem_of_getElem? (i := 1) rfl)) (fun _ h9 => h9) rfl dX4_byteAt_1 ?_
  refine lv_iload_n hx hb dX4_byteAt_4 rfl (lv_at hl 1 rfl) ?_
  refine kIx (xS (As := [.ref (a 1), .int q]) (rest := []) ⟨hx, hb, hml, hown, hts⟩ (c_X4_requirePlace l hnt D cI cL cM _ sa (a 1) (a 2) 80 (x_tx x) q hc9 (Nat.le_of_ble_eq_true rfl)) (va_cwS 2 hts gX4_byteAt_X4_requirePlace rfl rfl rfl (by decide +kernel) ⟨(Nat.le_of_ble_eq_true rfl), (Nat.le_of_ble_eq_true rfl)⟩) hEX hP hD hS hA [1, 2] rfl rfl rfl hl.1 rfl (Nat.le_of_ble_eq_true rfl) dX4_byteAt_5 ⟨(Nat.le_of_ble_eq_true rfl), (Nat.le_of_ble_eq_true rfl)⟩) hP hD hS hA (is := [1, 2]) rfl rfl (fun E9 ce9 q9 H locs hth9 hP hS h91 h92 h93 => ?_) (fun H locs gm hP hD hS => ?_)
  · exact vx_out (fun x hx9 => (htab x hx9).elim) hlocks h91 h92 h93 (fun t ht _ => ⟨(), trivial, ⟨⟨hth9.1, (by unfold cdPlc; rw [if_pos hth9.2])⟩, by rw [ht]; exact hP, hD⟩, hS.F ht⟩) hS.2.2 (Nat.le_of_ble_eq_true rfl) (Nat.le_of_ble_eq_true rfl)
  rw [mxW_tx, xs_tx_self] at hP hD
  have hP : va_P D vwCl (mxW cI cL cM a x) H := hP
  have hD : va_D A (mxW cI cL cM a x) := hD
  refine vx_ret ?_
  refine W.widen (k := 3) (n := 18) (Nat.le_of_ble_eq_true rfl) (Nat.le_of_ble_eq_true rfl) ?_
  exact W.iret (v := (q_at (x_tx x) q)) hx hb hr (fun t ht hW => ⟨⟨(q_at (x_tx x) q), (), rfl, ⟨by rfl, (by unfold cdPlc; rw [if_neg gm])⟩, by rw [ht]; exact hP, hD⟩, hS.F ht⟩) hS.2.2 dX4_byteAt_8

set_option maxHeartbeats 4000000 in
set_option maxRecDepth 100000 in
theorem c_X4_code (l : Launch) (hnt : l.stackTraces = false) (D : va_G) (cI cL cM : ClassId) (A : Nat → Prop) (sa : Nat → Nat) (a : Nat → Nat) (x : Mx) (q : Int32) (hc9 : q_c (x_en x) ≤ 2564) : mIy l yX4_code wsX4_code ({ frames := 7, cells := 3, slots := 18, locals := 111 }) D (tB cI cL cM) A sa [.ref (a 0), .int q] (mxW cI cL cM a x) (q_at (x_en x) q) (mxW cI cL cM a x) (cdPlc (x_en x) q = 0) (TH1 IOB (cdPlc (x_en x) q)) 3 18 := by
  refine vx_ofW (cc := cX4_code) (maxL := 2) (ret := (some .int)) (by decide) rfl ?_
  intro p e s m args below meth c s₁ B hml htab hv
  obtain ⟨rfl, hP, hEX, hD, hA⟩ := hv
  have hE := hEX.1
  have hK := hE.1
  have hx := B.exec
  have hb := B.bytes
  have hr := B.returns
  have hts := atoms_spec (ws := wsX4_code) B.pre
  have hown : s.vm.findClass RX4 = some m.cls := findClass_of_methodNamed B.named
  have hlocks := B.notSynchronized
  have hS : va_S A s.heap s.heap [] := va_S.rf
  have hl := lv_entry ([.ref (a 0), .int q]) (n := 2) (Nat.le_of_ble_eq_true rfl)
  rw [lg_entry_eq]
  generalize (lg_sl ([.ref (a 0), .int q]) ++ List.replicate (2 - (lg_sl ([.ref (a 0), .int q])).length) Slot.unset).toArray = ls at hl ⊢
  have hl : lv_has ls 2 [(0, .ref (a 0)), (1, .int q)] := hl
  refine lv_aload_n hx hb dX4_code_0 rfl (lv_at hl 0 rfl) ?_
  refine va_get (D := D) (ci := 4) (v := .ref (a 3)) (C := RX4) (T := TX4) (N := 5) hx hb hts (fun _ h => List.mem_cons_of_mem _ (List.mem_append_left _ (List.mem_append_left _ (List.mem_append_right _ h)))) hown hK hP 0 rfl rfl 1 (by decide) (hts _ (List.mem_of_getElem? (i := 1) rfl)) (fun _ h9 => h9) rfl dX4_code_1 ?_
  refine lv_iload_n hx hb dX4_code_4 rfl (lv_at hl 1 rfl) ?_
  refine kIx (xS (As := [.ref (a 3), .int q]) (rest := []) ⟨hx, hb, hml, hown, hts⟩ (c_X4_requirePlace l hnt D cI cL cM _ sa (a 3) (a 4) 2564 (x_en x) q hc9 (Nat.le_of_ble_eq_true rfl)) (va_cwS 2 hts gX4_code_X4_requirePlace rfl rfl rfl (by decide +kernel) ⟨(Nat.le_of_ble_eq_true rfl), (Nat.le_of_ble_eq_true rfl)⟩) hEX hP hD hS hA [3, 4] rfl rfl rfl hl.1 rfl (Nat.le_of_ble_eq_true rfl) dX4_code_5 ⟨(Nat.le_of_ble_eq_true rfl), (Nat.le_of_ble_eq_true rfl)⟩) hP hD hS hA (is := [3, 4]) rfl rfl (fun E9 ce9 q9 H locs hth9 hP hS h91 h92 h93 => ?_) (fun H locs gm hP hD hS => ?_)
  · exact vx_out (fun x hx9 => (htab x hx9).elim) hlocks h91 h92 h93 (fun t ht _ => ⟨(), trivial, ⟨⟨hth9.1, (by unfold cdPlc; rw [if_pos hth9.2])⟩, by rw [ht]; exact hP, hD⟩, hS.F ht⟩) hS.2.2 (Nat.le_of_ble_eq_true rfl) (Nat.le_of_ble_eq_true rfl)
  rw [mxW_en, xs_en_self] at hP hD
  have hP : va_P D vwCl (mxW cI cL cM a x) H := hP
  have hD : va_D A (mxW cI cL cM a x) := hD
  refine vx_ret ?_
  refine W.widen (k := 3) (n := 18) (Nat.le_of_ble_eq_true rfl) (Nat.le_of_ble_eq_true rfl) ?_
  exact W.iret (v := (q_at (x_en x) q)) hx hb hr (fun t ht hW => ⟨⟨(q_at (x_en x) q), (), rfl, ⟨by rfl, (by unfold cdPlc; rw [if_neg gm])⟩, by rw [ht]; exact hP, hD⟩, hS.F ht⟩) hS.2.2 dX4_code_8

set_option maxHeartbeats 4000000 in
set_option maxRecDepth 100000 in
theorem c_X4_output (l : Launch) (hnt : l.stackTraces = false) (D : va_G) (cI cL cM : ClassId) (A : Nat → Prop) (sa : Nat → Nat) (a : Nat → Nat) (x : Mx) (q : Int32) (hc9 : q_c (x_de x) ≤ 80) : mIy l yX4_output wsX4_output ({ frames := 7, cells := 3, slots := 18, locals := 111 }) D (tB cI cL cM) A sa [.ref (a 0), .int q] (mxW cI cL cM a x) (q_at (x_de x) q) (mxW cI cL cM a x) (cdPlc (x_de x) q = 0) (TH1 IOB (cdPlc (x_de x) q)) 3 18 := by
  refine vx_ofW (cc := cX4_output) (maxL := 2) (ret := (some .int)) (by decide) rfl ?_
  intro p e s m args below meth c s₁ B hml htab hv
  obtain ⟨rfl, hP, hEX, hD, hA⟩ := hv
  have hE := hEX.1
  have hK := hE.1
  have hx := B.exec
  have hb := B.bytes
  have hr := B.returns
  have hts := atoms_spec (ws := wsX4_output) B.pre
  have hown : s.vm.findClass RX4 = some m.cls := findClass_of_methodNamed B.named
  have hlocks := B.notSynchronized
  have hS : va_S A s.heap s.heap [] := va_S.rf
  have hl := lv_entry ([.ref (a 0), .int q]) (n := 2) (Nat.le_of_ble_eq_true rfl)
  rw [lg_entry_eq]
  generalize (lg_sl ([.ref (a 0), .int q]) ++ List.replicate (2 - (lg_sl ([.ref (a 0), .int q])).length) Slot.unset).toArray = ls at hl ⊢
  have hl : lv_has ls 2 [(0, .ref (a 0)), (1, .int q)] := hl
  refine lv_aload_n hx hb dX4_output_0 rfl (lv_at hl 0 rfl) ?_
  refine va_get (D := D) (ci := 4) (v := .ref (a 5)) (C := RX4) (T := TX4) (N := 5) hx hb hts (fun _ h => List.mem_cons_of_mem _ (List.mem_append_left _ (List.mem_append_left _ (List.mem_append_right _ h)))) hown hK hP 0 rfl rfl 2 (by decide) (hts _ (List.mem_of_getElem? (i := 1) rfl)) (fun _ h9 => h9) rfl dX4_output_1 ?_
  refine lv_iload_n hx hb dX4_output_4 rfl (lv_at hl 1 rfl) ?_
  refine kIx (xS (As := [.ref (a 5), .int q]) (rest := []) ⟨hx, hb, hml, hown, hts⟩ (c_X4_requirePlace l hnt D cI cL cM _ sa (a 5) (a 6) 80 (x_de x) q hc9 (Nat.le_of_ble_eq_true rfl)) (va_cwS 2 hts gX4_output_X4_requirePlace rfl rfl rfl (by decide +kernel) ⟨(Nat.le_of_ble_eq_true rfl), (Nat.le_of_ble_eq_true rfl)⟩) hEX hP hD hS hA [5, 6] rfl rfl rfl hl.1 rfl (Nat.le_of_ble_eq_true rfl) dX4_output_5 ⟨(Nat.le_of_ble_eq_true rfl), (Nat.le_of_ble_eq_true rfl)⟩) hP hD hS hA (is := [5, 6]) rfl rfl (fun E9 ce9 q9 H locs hth9 hP hS h91 h92 h93 => ?_) (fun H locs gm hP hD hS => ?_)
  · exact vx_out (fun x hx9 => (htab x hx9).elim) hlocks h91 h92 h93 (fun t ht _ => ⟨(), trivial, ⟨⟨hth9.1, (by unfold cdPlc; rw [if_pos hth9.2])⟩, by rw [ht]; exact hP, hD⟩, hS.F ht⟩) hS.2.2 (Nat.le_of_ble_eq_true rfl) (Nat.le_of_ble_eq_true rfl)
  rw [mxW_de, xs_de_self] at hP hD
  have hP : va_P D vwCl (mxW cI cL cM a x) H := hP
  have hD : va_D A (mxW cI cL cM a x) := hD
  refine vx_ret ?_
  refine W.widen (k := 3) (n := 18) (Nat.le_of_ble_eq_true rfl) (Nat.le_of_ble_eq_true rfl) ?_
  exact W.iret (v := (q_at (x_de x) q)) hx hb hr (fun t ht hW => ⟨⟨(q_at (x_de x) q), (), rfl, ⟨by rfl, (by unfold cdPlc; rw [if_neg gm])⟩, by rw [ht]; exact hP, hD⟩, hS.F ht⟩) hS.2.2 dX4_output_8

set_option maxHeartbeats 4000000 in
set_option maxRecDepth 100000 in
theorem c_X4_cut (l : Launch) (hnt : l.stackTraces = false) (D : va_G) (cI cL cM : ClassId) (A : Nat → Prop) (sa : Nat → Nat) (a : Nat → Nat) (x : Mx) (q : Int32) (hc9 : q_c (x_tx x) ≤ 80) : mIy l yX4_cut wsX4_cut ({ frames := 7, cells := 3, slots := 18, locals := 111 }) D (tB cI cL cM) A sa [.ref (a 0), .int q] (mxW cI cL cM a x) (nI (q_c (x_tx x) - q.toNatClampNeg)) (mxW cI cL cM a (xs_tx x (qs_c (x_tx x) (q_c (x_tx x) - q.toNatClampNeg)))) (cdCut (x_tx x) q = 0) (TH1 IAE (cdCut (x_tx x) q)) 3 18 := by
  refine vx_ofW (cc := cX4_cut) (maxL := 2) (ret := (some .int)) (by decide) rfl ?_
  intro p e s m args below meth c s₁ B hml htab hv
  obtain ⟨rfl, hP, hEX, hD, hA⟩ := hv
  have hE := hEX.1
  have hK := hE.1
  have hx := B.exec
  have hb := B.bytes
  have hr := B.returns
  have hts := atoms_spec (ws := wsX4_cut) B.pre
  have hown : s.vm.findClass RX4 = some m.cls := findClass_of_methodNamed B.named
  have hlocks := B.notSynchronized
  have hS : va_S A s.heap s.heap [] := va_S.rf
  have hl := lv_entry ([.ref (a 0), .int q]) (n := 2) (Nat.le_of_ble_eq_true rfl)
  rw [lg_entry_eq]
  generalize (lg_sl ([.ref (a 0), .int q]) ++ List.replicate (2 - (lg_sl ([.ref (a 0), .int q])).length) Slot.unset).toArray = ls at hl ⊢
  have hl : lv_has ls 2 [(0, .ref (a 0)), (1, .int q)] := hl
  refine lv_aload_n hx hb dX4_cut_0 rfl (lv_at hl 0 rfl) ?_
  refine va_get (D := D) (ci := 4) (v := .ref (a 1)) (C := RX4) (T := TX4) (N := 5) hx hb hts (fun _ h => List.mem_cons_of_mem _ (List.mem_append_left _ (List.mem_append_left _ (List.mem_append_right _ h)))) hown hK hP 0 rfl rfl 0 (by decide) (hts _ (List.mem_of_getElem? (i := 1) rfl)) (fun _ h9 => h9) rfl dX4_cut_1 ?_
  refine lv_iload_n hx hb dX4_cut_4 rfl (lv_at hl 1 rfl) ?_
  refine kIx (xS (As := [.ref (a 1), .int q]) (rest := []) ⟨hx, hb, hml, hown, hts⟩ (c_X4_shorten l hnt D cI cL cM _ sa (a 1) (a 2) 80 (x_tx x) q hc9 (Nat.le_of_ble_eq_true rfl) (Nat.le_of_ble_eq_true rfl)) (va_cwS 2 hts gX4_cut_X4_shorten rfl rfl rfl (by decide +kernel) ⟨(Nat.le_of_ble_eq_true rfl), (Nat.le_of_ble_eq_true rfl)⟩) hEX hP hD hS hA [1, 2] rfl rfl rfl hl.1 rfl (Nat.le_of_ble_eq_true rfl) dX4_cut_5 ⟨(Nat.le_of_ble_eq_true rfl), (Nat.le_of_ble_eq_true rfl)⟩) hP hD hS hA (is := [1, 2]) rfl rfl (fun E9 ce9 q9 H locs hth9 hP hS h91 h92 h93 => ?_) (fun H locs gm hP hD hS => ?_)
  · exact vx_out (fun x hx9 => (htab x hx9).elim) hlocks h91 h92 h93 (fun t ht _ => ⟨(), trivial, ⟨⟨hth9.1, (by unfold cdCut; rw [if_pos hth9.2])⟩, by rw [ht]; exact hP, hD⟩, hS.F ht⟩) hS.2.2 (Nat.le_of_ble_eq_true rfl) (Nat.le_of_ble_eq_true rfl)
  rw [mxW_tx] at hP hD
  have hP : va_P D vwCl (mxW cI cL cM a (xs_tx x (qs_c (x_tx x) (q_c (x_tx x) - q.toNatClampNeg)))) H := hP
  have hD : va_D A (mxW cI cL cM a (xs_tx x (qs_c (x_tx x) (q_c (x_tx x) - q.toNatClampNeg)))) := hD
  refine vx_ret ?_
  refine W.widen (k := 3) (n := 18) (Nat.le_of_ble_eq_true rfl) (Nat.le_of_ble_eq_true rfl) ?_
  exact W.iret (v := (nI (q_c (x_tx x) - q.toNatClampNeg))) hx hb hr (fun t ht hW => ⟨⟨(nI (q_c (x_tx x) - q.toNatClampNeg)), (), rfl, ⟨by rfl, (by unfold cdCut; rw [if_neg gm])⟩, by rw [ht]; exact hP, hD⟩, hS.F ht⟩) hS.2.2 dX4_cut_8

set_option maxHeartbeats 4000000 in
set_option maxRecDepth 100000 in
theorem c_X4_cutCode (l : Launch) (hnt : l.stackTraces = false) (D : va_G) (cI cL cM : ClassId) (A : Nat → Prop) (sa : Nat → Nat) (a : Nat → Nat) (x : Mx) (q : Int32) (hc9 : q_c (x_en x) ≤ 2564) : mIy l yX4_cutCode wsX4_cutCode ({ frames := 7, cells := 3, slots := 18, locals := 111 }) D (tB cI cL cM) A sa [.ref (a 0), .int q] (mxW cI cL cM a x) (nI (q_c (x_en x) - q.toNatClampNeg)) (mxW cI cL cM a (xs_en x (qs_c (x_en x) (q_c (x_en x) - q.toNatClampNeg)))) (cdCut (x_en x) q = 0) (TH1 IAE (cdCut (x_en x) q)) 3 18 := by
  refine vx_ofW (cc := cX4_cutCode) (maxL := 2) (ret := (some .int)) (by decide) rfl ?_
  intro p e s m args below meth c s₁ B hml htab hv
  obtain ⟨rfl, hP, hEX, hD, hA⟩ := hv
  have hE := hEX.1
  have hK := hE.1
  have hx := B.exec
  have hb := B.bytes
  have hr := B.returns
  have hts := atoms_spec (ws := wsX4_cutCode) B.pre
  have hown : s.vm.findClass RX4 = some m.cls := findClass_of_methodNamed B.named
  have hlocks := B.notSynchronized
  have hS : va_S A s.heap s.heap [] := va_S.rf
  have hl := lv_entry ([.ref (a 0), .int q]) (n := 2) (Nat.le_of_ble_eq_true rfl)
  rw [lg_entry_eq]
  generalize (lg_sl ([.ref (a 0), .int q]) ++ List.replicate (2 - (lg_sl ([.ref (a 0), .int q])).length) Slot.unset).toArray = ls at hl ⊢
  have hl : lv_has ls 2 [(0, .ref (a 0)), (1, .int q)] := hl
  refine lv_aload_n hx hb dX4_cutCode_0 rfl (lv_at hl 0 rfl) ?_
  refine va_get (D := D) (ci := 4) (v := .ref (a 3)) (C := RX4) (T := TX4) (N := 5) hx hb hts (fun _ h => List.mem_cons_of_mem _ (List.mem_append_left _ (List.mem_append_left _ (List.mem_append_right _ h)))) hown hK hP 0 rfl rfl 1 (by decide) (hts _ (List.mem_of_getElem? (i := 1) rfl)) (fun _ h9 => h9) rfl dX4_cutCode_1 ?_
  refine lv_iload_n hx hb dX4_cutCode_4 rfl (lv_at hl 1 rfl) ?_
  refine kIx (xS (As := [.ref (a 3), .int q]) (rest := []) ⟨hx, hb, hml, hown, hts⟩ (c_X4_shorten l hnt D cI cL cM _ sa (a 3) (a 4) 2564 (x_en x) q hc9 (Nat.le_of_ble_eq_true rfl) (Nat.le_of_ble_eq_true rfl)) (va_cwS 2 hts gX4_cutCode_X4_shorten rfl rfl rfl (by decide +kernel) ⟨(Nat.le_of_ble_eq_true rfl), (Nat.le_of_ble_eq_true rfl)⟩) hEX hP hD hS hA [3, 4] rfl rfl rfl hl.1 rfl (Nat.le_of_ble_eq_true rfl) dX4_cutCode_5 ⟨(Nat.le_of_ble_eq_true rfl), (Nat.le_of_ble_eq_true rfl)⟩) hP hD hS hA (is := [3, 4]) rfl rfl (fun E9 ce9 q9 H locs hth9 hP hS h91 h92 h93 => ?_) (fun H locs gm hP hD hS => ?_)
  · exact vx_out (fun x hx9 => (htab x hx9).elim) hlocks h91 h92 h93 (fun t ht _ => ⟨(), trivial, ⟨⟨hth9.1, (by unfold cdCut; rw [if_pos hth9.2])⟩, by rw [ht]; exact hP, hD⟩, hS.F ht⟩) hS.2.2 (Nat.le_of_ble_eq_true rfl) (Nat.le_of_ble_eq_true rfl)
  rw [mxW_en] at hP hD
  have hP : va_P D vwCl (mxW cI cL cM a (xs_en x (qs_c (x_en x) (q_c (x_en x) - q.toNatClampNeg)))) H := hP
  have hD : va_D A (mxW cI cL cM a (xs_en x (qs_c (x_en x) (q_c (x_en x) - q.toNatClampNeg)))) := hD
  refine vx_ret ?_
  refine W.widen (k := 3) (n := 18) (Nat.le_of_ble_eq_true rfl) (Nat.le_of_ble_eq_true rfl) ?_
  exact W.iret (v := (nI (q_c (x_en x) - q.toNatClampNeg))) hx hb hr (fun t ht hW => ⟨⟨(nI (q_c (x_en x) - q.toNatClampNeg)), (), rfl, ⟨by rfl, (by unfold cdCut; rw [if_neg gm])⟩, by rw [ht]; exact hP, hD⟩, hS.F ht⟩) hS.2.2 dX4_cutCode_8

set_option maxHeartbeats 4000000 in
set_option maxRecDepth 100000 in
theorem c_X4_setCode (l : Launch) (hnt : l.stackTraces = false) (D : va_G) (cI cL cM : ClassId) (A : Nat → Prop) (sa : Nat → Nat) (a : Nat → Nat) (x : Mx) (q v : Int32) (hc9 : q_c (x_en x) ≤ 2564) : mIy l yX4_setCode wsX4_setCode ({ frames := 7, cells := 3, slots := 18, locals := 111 }) D (tB cI cL cM) A sa [.ref (a 0), .int q, .int v] (mxW cI cL cM a x) (q_at (x_en x) q) (mxW cI cL cM a (xs_en x (q_put (x_en x) q v))) (cdSet (x_en x) q v = 0) (TH2 IOB IAE (cdSet (x_en x) q v)) 3 18 := by
  refine vx_ofW (cc := cX4_setCode) (maxL := 4) (ret := (some .int)) (by decide) rfl ?_
  intro p e s m args below meth c s₁ B hml htab hv
  obtain ⟨rfl, hP, hEX, hD, hA⟩ := hv
  have hE := hEX.1
  have hK := hE.1
  have hx := B.exec
  have hb := B.bytes
  have hr := B.returns
  have hts := atoms_spec (ws := wsX4_setCode) B.pre
  have hown : s.vm.findClass RX4 = some m.cls := findClass_of_methodNamed B.named
  have hlocks := B.notSynchronized
  have hS : va_S A s.heap s.heap [] := va_S.rf
  have hl := lv_entry ([.ref (a 0), .int q, .int v]) (n := 4) (Nat.le_of_ble_eq_true rfl)
  rw [lg_entry_eq]
  generalize (lg_sl ([.ref (a 0), .int q, .int v]) ++ List.replicate (4 - (lg_sl ([.ref (a 0), .int q, .int v])).length) Slot.unset).toArray = ls at hl ⊢
  have hl : lv_has ls 4 [(0, .ref (a 0)), (1, .int q), (2, .int v)] := hl
  refine lv_aload_n hx hb dX4_setCode_0 rfl (lv_at hl 0 rfl) ?_
  refine va_get (D := D) (ci := 4) (v := .ref (a 3)) (C := RX4) (T := TX4) (N := 5) hx hb hts (fun _ h => List.mem_cons_of_mem _ (List.mem_append_left _ (List.mem_append_left _ (List.mem_append_left _ (List.mem_append_right _ h))))) hown hK hP 0 rfl rfl 1 (by decide) (hts _ (List.mem_of_getElem? (i := 1) rfl)) (fun _ h9 => h9) rfl dX4_setCode_1 ?_
  refine lv_iload_n hx hb dX4_setCode_4 rfl (lv_at hl 1 rfl) ?_
  refine kIx (xS (As := [.ref (a 3), .int q]) (rest := []) ⟨hx, hb, hml, hown, hts⟩ (c_X4_requirePlace l hnt D cI cL cM _ sa (a 3) (a 4) 2564 (x_en x) q hc9 (Nat.le_of_ble_eq_true rfl)) (va_cwS 2 hts gX4_setCode_X4_requirePlace rfl rfl rfl (by decide +kernel) ⟨(Nat.le_of_ble_eq_true rfl), (Nat.le_of_ble_eq_true rfl)⟩) hEX hP hD hS hA [3, 4] rfl rfl rfl hl.1 rfl (Nat.le_of_ble_eq_true rfl) dX4_setCode_5 ⟨(Nat.le_of_ble_eq_true rfl), (Nat.le_of_ble_eq_true rfl)⟩) hP hD hS hA (is := [3, 4]) rfl rfl (fun E9 ce9 q9 H locs hth9 hP hS h91 h92 h93 => ?_) (fun H locs gm hP hD hS => ?_)
  · exact vx_out (fun x hx9 => (htab x hx9).elim) hlocks h91 h92 h93 (fun t ht _ => ⟨(), trivial, ⟨Or.inl ⟨hth9.1, (by unfold cdSet; rw [if_pos hth9.2])⟩, by rw [ht]; exact hP, hD⟩, hS.F ht⟩) hS.2.2 (Nat.le_of_ble_eq_true rfl) (Nat.le_of_ble_eq_true rfl)
  rw [mxW_en, xs_en_self] at hP hD
  have hP : va_P D vwCl (mxW cI cL cM a x) H := hP
  have hD : va_D A (mxW cI cL cM a x) := hD
  refine lv_istore_n (lv' := [(3, .int (q_at (x_en x) q)), (0, .ref (a 0)), (1, .int q), (2, .int v)]) hx hb dX4_setCode_8 rfl hl (by decide) rfl (fun ls hl => ?_)
  refine lv_iload_n hx hb dX4_setCode_9 rfl (lv_at hl 3 rfl) ?_
  refine kVx (xS (As := [.int v]) (rest := []) ⟨hx, hb, hml, hown, hts⟩ (c_X4_requireByte l hnt D cI cL cM _ sa [] v ) (va_cwS 1 hts gX4_setCode_X4_requireByte rfl rfl rfl (by decide +kernel) ⟨(Nat.le_of_ble_eq_true rfl), (Nat.le_of_ble_eq_true rfl)⟩) hEX hP hD hS hA [] rfl rfl rfl hl.1 rfl (Nat.le_of_ble_eq_true rfl) dX4_setCode_10 ⟨(Nat.le_of_ble_eq_true rfl), (Nat.le_of_ble_eq_true rfl)⟩) hP hD hS hA (is := []) rfl rfl (fun E9 ce9 q9 H locs hth9 hP hS h91 h92 h93 => ?_) (fun H locs gv hP hD hS => ?_)
  · exact vx_out (fun x hx9 => (htab x hx9).elim) hlocks h91 h92 h93 (fun t ht _ => ⟨(), trivial, ⟨Or.inr ⟨hth9.1, (by unfold cdSet; rw [if_neg gm, if_pos hth9.2])⟩, by rw [ht]; exact hP, hD⟩, hS.F ht⟩) hS.2.2 (Nat.le_of_ble_eq_true rfl) (Nat.le_of_ble_eq_true rfl)
  rw [putW_nil] at hP hD
  have hP : va_P D vwCl (mxW cI cL cM a x) H := hP
  have hD : va_D A (mxW cI cL cM a x) := hD
  refine lv_aload_n hx hb dX4_setCode_13 rfl (lv_at hl 1 rfl) ?_
  refine va_get (D := D) (ci := 4) (v := .ref (a 3)) (C := RX4) (T := TX4) (N := 5) hx hb hts (fun _ h => List.mem_cons_of_mem _ (List.mem_append_left _ (List.mem_append_left _ (List.mem_append_left _ (List.mem_append_right _ h))))) hown hK hP 0 rfl rfl 1 (by decide) (hts _ (List.mem_of_getElem? (i := 1) rfl)) (fun _ h9 => h9) rfl dX4_setCode_14 ?_
  refine lv_iload_n hx hb dX4_setCode_17 rfl (lv_at hl 2 rfl) ?_
  refine lv_iload_n hx hb dX4_setCode_18 rfl (lv_at hl 3 rfl) ?_
  refine kV (rV (As := [.int q, .int v]) (rest := []) ⟨hx, hb, hml, hown, hts⟩ (c_X0_put l D cI cL cM _ (a 3) (a 4) 2564 (x_en x) q v hc9 (Nat.le_of_ble_eq_true rfl)) (cwV 2 hts gX4_setCode_X0_put rfl rfl rfl (by decide +kernel) ⟨(Nat.le_of_ble_eq_true rfl), (Nat.le_of_ble_eq_true rfl)⟩) hE hP hD [3, 4] rfl rfl rfl rfl rfl hl.1 rfl (Nat.le_of_ble_eq_true rfl) dX4_setCode_19 ⟨(Nat.le_of_ble_eq_true rfl), (Nat.le_of_ble_eq_true rfl)⟩) hP hD hS hA (is := [3, 4]) rfl rfl (fun H locs hP hD hS => ?_)
  rw [mxW_en] at hP hD
  have hP : va_P D vwCl (mxW cI cL cM a (xs_en x (q_put (x_en x) q v))) H := hP
  have hD : va_D A (mxW cI cL cM a (xs_en x (q_put (x_en x) q v))) := hD
  refine lv_iload_n hx hb dX4_setCode_22 rfl (lv_at hl 0 rfl) ?_
  refine vx_ret ?_
  refine W.widen (k := 3) (n := 18) (Nat.le_of_ble_eq_true rfl) (Nat.le_of_ble_eq_true rfl) ?_
  exact W.iret (v := (q_at (x_en x) q)) hx hb hr (fun t ht hW => ⟨⟨(q_at (x_en x) q), (), rfl, ⟨by rfl, (by unfold cdSet; rw [if_neg gm, if_neg gv])⟩, by rw [ht]; exact hP, hD⟩, hS.F ht⟩) hS.2.2 dX4_setCode_23
