/-! ===== decode ===== -/
def v_lod (v : Iv) (r : Row) : Iv := i_v (i_lod (v, r))
theorem i_lod_r (u : IR) : i_r (i_lod u) = i_r u := by
  unfold i_lod
  simp only [i_pul_r]
theorem mxW_load (cI cL cM : ClassId) (a : Nat → Nat) (x : Mx) : putW (mxW cI cL cM a x) [34, 3, 4] (irW cI (a 10) (a 3) (a 4) 2564 (i_lod (x_iv x, x_en x))) = mxW cI cL cM a (xs_iv x (v_lod (x_iv x) (x_en x))) := by
  rw [mxW_ie, i_lod_r]
  rfl
theorem irW_fst (cI : ClassId) (h0 g0 g1 lim : Nat) (u v : IR) : (irW cI h0 g0 g1 lim u).map Prod.fst = (irW cI h0 g0 g1 lim v).map Prod.fst := rfl
theorem mxW_ieC (cI cL cM : ClassId) (a : Nat → Nat) (x : Mx) : [34, 3, 4].map (fun i => (mxW cI cL cM a x)[i]?) = (irW cI (a 10) (a 3) (a 4) 2564 (x_iv x, x_en x)).map some := rfl
theorem x_dwh_pr : ∀ (n : Nat) (y : Mx), x_pr (x_dwh n y) = x_pr y
  | 0, y => rfl
  | n + 1, y => by
    show x_pr (if v_set (x_iv y) = 0 then y else x_dwh n (x_dst y)) = x_pr y
    split
    · rfl
    · rw [x_dwh_pr n, x_dst_pr]
theorem x_dwh_en : ∀ (n : Nat) (y : Mx), x_en (x_dwh n y) = x_en y
  | 0, y => rfl
  | n + 1, y => by
    show x_en (if v_set (x_iv y) = 0 then y else x_dwh n (x_dst y)) = x_en y
    split
    · rfl
    · rw [x_dwh_en n, x_dst_en]
theorem x_dst_tx (y : Mx) : x_tx (x_dst y) = x_tx y := by unfold x_dst; rw [x_tx_iv]; unfold x_sh; rw [x_tx_iv]
theorem x_dst_de (y : Mx) : x_de (x_dst y) = x_de y := by unfold x_dst; rw [x_de_iv]; unfold x_sh; rw [x_de_iv]
theorem x_dwh_tx : ∀ (n : Nat) (y : Mx), x_tx (x_dwh n y) = x_tx y
  | 0, y => rfl
  | n + 1, y => by
    show x_tx (if v_set (x_iv y) = 0 then y else x_dwh n (x_dst y)) = x_tx y
    split
    · rfl
    · rw [x_dwh_tx n, x_dst_tx]
theorem x_dwh_de : ∀ (n : Nat) (y : Mx), x_de (x_dwh n y) = x_de y
  | 0, y => rfl
  | n + 1, y => by
    show x_de (if v_set (x_iv y) = 0 then y else x_dwh n (x_dst y)) = x_de y
    split
    · rfl
    · rw [x_dwh_de n, x_dst_de]
theorem x_prt_pr (z : Int32) (y : Mx) : x_pr (x_prt z y) = x_pr y := by unfold x_prt; rw [x_pr_iv]
theorem x_prt_en (z : Int32) (y : Mx) : x_en (x_prt z y) = x_en y := by unfold x_prt; rw [x_en_iv]
theorem x_prt_tx (z : Int32) (y : Mx) : x_tx (x_prt z y) = x_tx y := by unfold x_prt; rw [x_tx_iv]
theorem x_prt_de (z : Int32) (y : Mx) : x_de (x_prt z y) = x_de y := by unfold x_prt; rw [x_de_iv]
theorem x_db_pr (y : Mx) : x_pr (x_db y) = k_ln (x_zd y) (k_mx (x_pr y)) (x_pr y) := by unfold x_db; rw [x_pr_pr, x_dwh_pr, x_prt_pr]
theorem x_db_en (y : Mx) : x_en (x_db y) = x_en y := by unfold x_db; rw [x_en_pr, x_dwh_en, x_prt_en]
theorem x_db_tx (y : Mx) : x_tx (x_db y) = x_tx y := by unfold x_db; rw [x_tx_pr, x_dwh_tx, x_prt_tx]
theorem x_db_de (y : Mx) : x_de (x_db y) = x_de y := by unfold x_db; rw [x_de_pr, x_dwh_de, x_prt_de]
theorem x_dby_J {J : Pr → Prop} (hJ : JInv J) (x : Mx) (h : J (x_pr x)) : ∀ k, J (x_pr (x_dby x k).1)
  | 0 => h
  | k + 1 => by
    show J (x_pr (x_db (x_dby x k).1))
    rw [x_db_pr]
    exact hJ.2 _ _ (x_dby_J hJ x h k)
theorem x_dby_en (x : Mx) : ∀ k, x_en (x_dby x k).1 = x_en x
  | 0 => rfl
  | k + 1 => (x_db_en _).trans (x_dby_en x k)
theorem x_dby_tx (x : Mx) : ∀ k, x_tx (x_dby x k).1 = x_tx x
  | 0 => rfl
  | k + 1 => (x_db_tx _).trans (x_dby_tx x k)
theorem x_dby_de (x : Mx) : ∀ k, x_de (x_dby x k).1 = x_de x
  | 0 => rfl
  | k + 1 => (x_db_de _).trans (x_dby_de x k)
def x_dap (y : Mx) : Mx := xs_de (x_dby y 8).1 (q_app 80 (x_de (x_dby y 8).1) (x_dby y 8).2)
def x_dlp (y : Mx) : Nat → Mx
  | 0 => y
  | k + 1 => x_dap (x_dlp y k)
def x_d1 (x : Mx) : Mx := xs_de (xs_iv (xs_iv (xs_pr x (k_rs (x_pr x))) (v_opn (x_iv x))) (v_lod (v_opn (x_iv x)) (x_en x))) (qs_c (x_de x) 0)
def x_dec (x : Mx) (q : Int32) : Mx := x_dlp (x_d1 x) q.toNatClampNeg
theorem x_dap_J {J : Pr → Prop} (hJ : JInv J) (y : Mx) (h : J (x_pr y)) : J (x_pr (x_dap y)) := by unfold x_dap; rw [x_pr_de]; exact x_dby_J hJ y h 8
theorem x_dap_en (y : Mx) : x_en (x_dap y) = x_en y := by unfold x_dap; rw [x_en_de]; exact x_dby_en y 8
theorem x_dap_tx (y : Mx) : x_tx (x_dap y) = x_tx y := by unfold x_dap; rw [x_tx_de]; exact x_dby_tx y 8
theorem x_dap_dc {y : Mx} (h : q_c (x_de y) ≤ 80) : q_c (x_de (x_dap y)) ≤ 80 := by
  unfold x_dap
  rw [x_de_de, x_dby_de]
  exact q_app_le _ h
def cdDec (q : Int32) : Int32 := if isI q 0 80 = 0 then 1 else 0

set_option maxHeartbeats 4000000 in
set_option maxRecDepth 100000 in
theorem c_X4_decode (l : Launch) (hnt : l.stackTraces = false) (D : va_G) (cI cL cM : ClassId) (A : Nat → Prop) (sa : Nat → Nat) (a : Nat → Nat) (x : Mx) (q : Int32) (J : Pr → Prop) (hJ : JInv J) (hJ0 : J (k_rs (x_pr x))) (hn6 : k_n (x_pr x) ≤ 6) (htc : q_c (x_tx x) ≤ 80) (hec : q_c (x_en x) ≤ 2564) : mIy l yX4_decode wsX4_decode ({ frames := 6, cells := 3, slots := 18, locals := 137 }) D (tB cI cL cM) A sa [.ref (a 0), .int q] (mxW cI cL cM a x) (dfX (x_dec x q) (max (q_c (x_tx (x_dec x q))) (q_c (x_de (x_dec x q))))) (mxW cI cL cM a (x_dec x q)) (cdDec q = 0) (TH1 IAE (cdDec q)) 3 18 := by
  refine vx_ofW (cc := cX4_decode) (maxL := 3) (ret := (some .int)) (by decide) rfl ?_
  intro p e s m args below meth c s₁ B hml htab hv
  obtain ⟨rfl, hP, hEX, hD, hA⟩ := hv
  have hE := hEX.1
  have hK := hE.1
  have hx := B.exec
  have hb := B.bytes
  have hr := B.returns
  have hts := atoms_spec (ws := wsX4_decode) B.pre
  have hown : s.vm.findClass RX4 = some m.cls := findClass_of_methodNamed B.named
  have hlocks := B.notSynchronized
  have hS : va_S A s.heap s.heap [] := va_S.rf
  have hl := lv_entry ([.ref (a 0), .int q]) (n := 3) (Nat.le_of_ble_eq_true rfl)
  rw [lg_entry_eq]
  generalize (lg_sl ([.ref (a 0), .int q]) ++ List.replicate (3 - (lg_sl ([.ref (a 0), .int q])).length) Slot.unset).toArray = ls at hl ⊢
  have hl : lv_has ls 3 [(0, .ref (a 0)), (1, .int q)] := hl
  refine lv_iload_n hx hb dX4_decode_0 rfl (lv_at hl 1 rfl) ?_
  refine lv_if_lt (tgt := 10) hx hb dX4_decode_1 (by decide) (fun c1 => ?_) (fun c1 => ?_)
  · replace c1 : q < (0 : Int32) := c1
    have ga : isI q 0 80 = 0 := isI_a c1
    exact vx_throwS (text := "many is not 0 to 80") (names := xNames) (sa := sa 181) (A := A) hx hb hnt hown (by decide) (by decide) (hts _ (List.mem_of_getElem? (i := 1) rfl)) (hts _ (List.mem_of_getElem? (i := 2) rfl)) (hEX.2.2.2.1 (181, "many is not 0 to 80") (by decide)) (vx_hat (fun w hw => hts w ((fun _ h => List.mem_cons_of_mem _ (List.mem_append_right _ h)) w hw)) iae_bad (xW_use hEX.2.2.2.2 _)) iae_good hEX.2.1 hEX.2.2.1 hS (hl.1.trans hml.symm) dX4_decode_10 dX4_decode_13 dX4_decode_14 dX4_decode_16 dX4_decode_19 (fun x hx9 => (htab x hx9).elim) (Nat.le_of_ble_eq_true rfl) (Nat.le_of_ble_eq_true rfl) (Nat.le_of_ble_eq_true rfl) (Nat.le_of_ble_eq_true rfl) hlocks (fun t hvm hz hk => ⟨(), trivial, ⟨⟨rfl, (by unfold cdDec; rw [if_pos ga])⟩, kept_P hP hk, hD⟩, thF hS hz hk⟩) hS.2.2 (Nat.le_of_ble_eq_true rfl) (Nat.le_of_ble_eq_true rfl)
  · replace c1 : ¬ q < (0 : Int32) := c1
    refine lv_iload_n hx hb dX4_decode_4 rfl (lv_at hl 1 rfl) ?_
    refine lv_bipush (v := 80) hx hb dX4_decode_5 (by decide) ?_
    refine lv_icmp_le (tgt := 20) hx hb dX4_decode_7 (by decide) (fun c2 => ?_) (fun c2 => ?_)
    · replace c2 : q ≤ (80 : Int32) := c2
      have ga : ¬ isI q 0 80 = 0 := isI_1 c1 (i_nlt c2)
      obtain ⟨j, hj0, hj8, hq9⟩ := isI_j (lo := 0) (hi := 80) (Nat.le_of_ble_eq_true rfl) (Nat.le_of_ble_eq_true rfl) ga
      have hcl := clN hq9 (Nat.lt_succ_of_le hj8) (Nat.le_of_ble_eq_true rfl)
      refine lv_aload_n hx hb dX4_decode_20 rfl (lv_at hl 0 rfl) ?_
      refine va_get (D := D) (ci := 4) (v := .ref (a 7)) (C := RX4) (T := TX4) (N := 5) hx hb hts (fun _ h => List.mem_cons_of_mem _ (List.mem_append_left _ (List.mem_append_left _ (List.mem_append_left _ (List.mem_append_left _ (List.mem_append_left _ (List.mem_append_right _ h))))))) hown hK hP 0 rfl rfl 3 (by decide) (hts _ (List.mem_of_getElem? (i := 3) rfl)) (fun _ h9 => h9) rfl dX4_decode_21 ?_
      refine kV (rV (As := []) (rest := []) ⟨hx, hb, hml, hown, hts⟩ (c_X3_restart l D cI cL cM _ a (x_pr x)  hn6) (cwV 0 hts gX4_decode_X3_restart rfl rfl rfl (by decide +kernel) ⟨(Nat.le_of_ble_eq_true rfl), (Nat.le_of_ble_eq_true rfl)⟩) hE hP hD [7, 8, 9, 10, 11, 12, 13, 14, 15, 16, 17, 18, 19, 20, 21, 22, 23, 24, 25, 26, 27, 28, 29, 30, 31, 32, 33] segnd (mxW_prC cI cL cM a _) rfl rfl rfl hl.1 rfl (Nat.le_of_ble_eq_true rfl) dX4_decode_24 ⟨(Nat.le_of_ble_eq_true rfl), (Nat.le_of_ble_eq_true rfl)⟩) hP hD hS hA (is := [7, 8, 9, 10, 11, 12, 13, 14, 15, 16, 17, 18, 19, 20, 21, 22, 23, 24, 25, 26, 27, 28, 29, 30, 31, 32, 33]) (mxW_prC cI cL cM a _) (prW_fst cI cL cM a _ _) (fun H locs hP hD hS => ?_)
      rw [mxW_pr] at hP hD
      have hP : va_P D vwCl (mxW cI cL cM a (xs_pr x (k_rs (x_pr x)))) H := hP
      have hD : va_D A (mxW cI cL cM a (xs_pr x (k_rs (x_pr x)))) := hD
      obtain ⟨b1, hb1⟩ : ∃ y9 : Mx, y9 = (xs_pr x (k_rs (x_pr x))) := ⟨_, rfl⟩
      rw [← hb1] at hP hD
      have hb1e : x_en b1 = x_en x := by rw [hb1, x_en_pr]
      refine lv_aload_n hx hb dX4_decode_27 rfl (lv_at hl 0 rfl) ?_
      refine va_get (D := D) (ci := 4) (v := .ref (a 10)) (C := RX4) (T := TX4) (N := 5) hx hb hts (fun _ h => List.mem_cons_of_mem _ (List.mem_append_left _ (List.mem_append_left _ (List.mem_append_left _ (List.mem_append_left _ (List.mem_append_left _ (List.mem_append_right _ h))))))) hown hK hP 0 rfl rfl 4 (by decide) (hts _ (List.mem_of_getElem? (i := 4) rfl)) (fun _ h9 => h9) rfl dX4_decode_28 ?_
      refine kV (rV (As := []) (rest := []) ⟨hx, hb, hml, hown, hts⟩ (c_X1_open l D cI cL cM _ (a 10) (x_iv b1)  ) (cwV 0 hts gX4_decode_X1_open rfl rfl rfl (by decide +kernel) ⟨(Nat.le_of_ble_eq_true rfl), (Nat.le_of_ble_eq_true rfl)⟩) hE hP hD [34] rfl rfl rfl rfl rfl hl.1 rfl (Nat.le_of_ble_eq_true rfl) dX4_decode_31 ⟨(Nat.le_of_ble_eq_true rfl), (Nat.le_of_ble_eq_true rfl)⟩) hP hD hS hA (is := [34]) rfl rfl (fun H locs hP hD hS => ?_)
      rw [mxW_iv] at hP hD
      have hP : va_P D vwCl (mxW cI cL cM a (xs_iv b1 (v_opn (x_iv b1)))) H := hP
      have hD : va_D A (mxW cI cL cM a (xs_iv b1 (v_opn (x_iv b1)))) := hD
      obtain ⟨b2, hb2⟩ : ∃ y9 : Mx, y9 = (xs_iv b1 (v_opn (x_iv b1))) := ⟨_, rfl⟩
      rw [← hb2] at hP hD
      have hb2e : x_en b2 = x_en x := by rw [hb2, x_en_iv]; exact hb1e
      refine lv_aload_n hx hb dX4_decode_34 rfl (lv_at hl 0 rfl) ?_
      refine va_get (D := D) (ci := 4) (v := .ref (a 10)) (C := RX4) (T := TX4) (N := 5) hx hb hts (fun _ h => List.mem_cons_of_mem _ (List.mem_append_left _ (List.mem_append_left _ (List.mem_append_left _ (List.mem_append_left _ (List.mem_append_left _ (List.mem_append_right _ h))))))) hown hK hP 0 rfl rfl 4 (by decide) (hts _ (List.mem_of_getElem? (i := 4) rfl)) (fun _ h9 => h9) rfl dX4_decode_35 ?_
      refine lv_aload_n hx hb dX4_decode_38 rfl (lv_at hl 0 rfl) ?_
      refine va_get (D := D) (ci := 4) (v := .ref (a 3)) (C := RX4) (T := TX4) (N := 5) hx hb hts (fun _ h => List.mem_cons_of_mem _ (List.mem_append_left _ (List.mem_append_left _ (List.mem_append_left _ (List.mem_append_left _ (List.mem_append_left _ (List.mem_append_right _ h))))))) hown hK hP 0 rfl rfl 1 (by decide) (hts _ (List.mem_of_getElem? (i := 5) rfl)) (fun _ h9 => h9) rfl dX4_decode_39 ?_
      refine kV (rV (As := [.ref (a 3)]) (rest := []) ⟨hx, hb, hml, hown, hts⟩ (c_X1_load l D cI cL cM _ (a 10) (a 3) (a 4) 2564 ((x_iv b2), (x_en b2)) (show q_c (x_en b2) ≤ 2564 by rw [hb2e]; exact hec) (Nat.le_of_ble_eq_true rfl)) (cwV 1 hts gX4_decode_X1_load rfl rfl rfl (by decide +kernel) ⟨(Nat.le_of_ble_eq_true rfl), (Nat.le_of_ble_eq_true rfl)⟩) hE hP hD [34, 3, 4] rfl (mxW_ieC cI cL cM a _) rfl rfl rfl hl.1 rfl (Nat.le_of_ble_eq_true rfl) dX4_decode_42 ⟨(Nat.le_of_ble_eq_true rfl), (Nat.le_of_ble_eq_true rfl)⟩) hP hD hS hA (is := [34, 3, 4]) (mxW_ieC cI cL cM a _) (irW_fst cI _ _ _ _ _ _) (fun H locs hP hD hS => ?_)
      rw [mxW_load] at hP hD
      have hP : va_P D vwCl (mxW cI cL cM a (xs_iv b2 (v_lod (x_iv b2) (x_en b2)))) H := hP
      have hD : va_D A (mxW cI cL cM a (xs_iv b2 (v_lod (x_iv b2) (x_en b2)))) := hD
      obtain ⟨b3, hb3⟩ : ∃ y9 : Mx, y9 = (xs_iv b2 (v_lod (x_iv b2) (x_en b2))) := ⟨_, rfl⟩
      rw [← hb3] at hP hD
      refine lv_aload_n hx hb dX4_decode_45 rfl (lv_at hl 0 rfl) ?_
      refine va_get (D := D) (ci := 4) (v := .ref (a 5)) (C := RX4) (T := TX4) (N := 5) hx hb hts (fun _ h => List.mem_cons_of_mem _ (List.mem_append_left _ (List.mem_append_left _ (List.mem_append_left _ (List.mem_append_left _ (List.mem_append_left _ (List.mem_append_right _ h))))))) hown hK hP 0 rfl rfl 2 (by decide) (hts _ (List.mem_of_getElem? (i := 6) rfl)) (fun _ h9 => h9) rfl dX4_decode_46 ?_
      refine kV (rV (As := []) (rest := []) ⟨hx, hb, hml, hown, hts⟩ (c_X0_clear l D cI cL cM _ (a 5) (a 6) 80 (x_de b3)  ) (cwV 0 hts gX4_decode_X0_clear rfl rfl rfl (by decide +kernel) ⟨(Nat.le_of_ble_eq_true rfl), (Nat.le_of_ble_eq_true rfl)⟩) hE hP hD [5, 6] rfl rfl rfl rfl rfl hl.1 rfl (Nat.le_of_ble_eq_true rfl) dX4_decode_49 ⟨(Nat.le_of_ble_eq_true rfl), (Nat.le_of_ble_eq_true rfl)⟩) hP hD hS hA (is := [5, 6]) rfl rfl (fun H locs hP hD hS => ?_)
      rw [mxW_de] at hP hD
      have hP : va_P D vwCl (mxW cI cL cM a (xs_de b3 (qs_c (x_de b3) 0))) H := hP
      have hD : va_D A (mxW cI cL cM a (xs_de b3 (qs_c (x_de b3) 0))) := hD
      obtain ⟨d1, hd1⟩ : ∃ y9 : Mx, y9 = (xs_de b3 (qs_c (x_de b3) 0)) := ⟨_, rfl⟩
      rw [← hd1] at hP hD
      have hD1 : d1 = x_d1 x := by rw [hd1, hb3, hb2, hb1]; unfold x_d1; rw [x_de_iv, x_de_iv, x_de_pr, x_iv_iv, x_en_iv, x_en_pr, x_iv_pr]
      have hJ1 : J (x_pr d1) := by rw [hD1]; unfold x_d1; rw [x_pr_de, x_pr_iv, x_pr_iv, x_pr_pr]; exact hJ0
      have htx1 : x_tx d1 = x_tx x := by rw [hD1]; unfold x_d1; rw [x_tx_de, x_tx_iv, x_tx_iv, x_tx_pr]
      have hen1 : x_en d1 = x_en x := by rw [hD1]; unfold x_d1; rw [x_en_de, x_en_iv, x_en_iv, x_en_pr]
      have hdc1 : q_c (x_de d1) ≤ 80 := by rw [hD1]; unfold x_d1; rw [x_de_de, q_c_c]; omega
      refine lv_iconst (v := 0) hx hb dX4_decode_52 (by decide) ?_
      refine lv_istore_n (lv' := [(2, .int 0), (0, .ref (a 0)), (1, .int q)]) hx hb dX4_decode_53 rfl hl (by decide) rfl (fun ls hl => ?_)
      have lpd : ∀ (n9 : Nat) (k9 : Nat) (v : Mx) (hk9 : k9 ≤ j) (hv : v = x_dlp d1 k9) (hvJ : J (x_pr v)) (hvt : x_tx v = x_tx x) (hve : x_en v = x_en x) (hvd : q_c (x_de v) ≤ 80), j - k9 < n9 → ∀ (H : Heap) (locs : List Loc), va_P D vwCl (mxW cI cL cM a v) H → va_D A (mxW cI cL cM a v) → va_S A s.heap H locs → ∀ (ls : Array Slot), lv_has ls 3 [(2, .int (nI k9)), (1, .int q), (0, .ref (a 0))] → W p l e (headSpec wsX4_decode ({ frames := 6, cells := 3, slots := 18, locals := 137 })).room s m (([.ref (a 0), .int q] : List Value).toArray) below meth c H locs 0 0 (vx_MQ below (va_Qi (fun x9 (_ : Unit) => x9 = (dfX (x_dec x q) (max (q_c (x_tx (x_dec x q))) (q_c (x_de (x_dec x q))))) ∧ cdDec q = 0) (fun _ t => hq D A (mxW cI cL cM a (x_dec x q)) t) A) (vx_X (fun (_ : Unit) => True) (fun E _ t => (TH1 IAE (cdDec q)) E ∧ hq D A (mxW cI cL cM a x) t) A) (([.ref (a 0), .int q] : List Value).toArray) s 3 18 A) (F0 m 54 ls []) := by
        intro n9
        induction n9 with
        | zero => intro k9 v hk9 hv hvJ hvt hve hvd hm9; exact absurd hm9 (Nat.not_lt_zero _)
        | succ n9 ih_lpd =>
          intro k9 v hk9 hv hvJ hvt hve hvd hm9 H locs hP hD hS ls hl
          refine lv_iload_n hx hb dX4_decode_54 rfl (lv_at hl 0 rfl) ?_
          refine lv_iload_n hx hb dX4_decode_55 rfl (lv_at hl 1 rfl) ?_
          refine topI (y := nI j) (hq9) ?_
          refine lv_icmp_ge (tgt := 76) hx hb dX4_decode_56 (by decide) (fun cj => ?_) (fun cj => ?_)
          · replace cj : (nI j) ≤ (nI k9) := cj
            have hkj : k9 = j := by have h8 := ge_N (by omega) (by omega) cj; omega
            have hdx : v = x_dec x q := by unfold x_dec; rw [hcl, ← hD1, hv, hkj]
            refine lv_aload_n hx hb dX4_decode_76 rfl (lv_at hl 2 rfl) ?_
            refine kIa (rVa (As := []) (rest := []) ⟨hx, hb, hml, hown, hts⟩ (c_X4_differences l D cI cL cM _ a v  (by rw [hvt]; exact htc) hvd) (cwV 0 hts gX4_decode_X4_differences rfl rfl rfl (by decide +kernel) ⟨(Nat.le_of_ble_eq_true rfl), (Nat.le_of_ble_eq_true rfl)⟩) hE hP hD hS hA 0 rfl rfl rfl hl.1 rfl (Nat.le_of_ble_eq_true rfl) dX4_decode_77 ⟨(Nat.le_of_ble_eq_true rfl), (Nat.le_of_ble_eq_true rfl)⟩) hS (fun H locs hP hD hS => ?_)
            have hP : va_P D vwCl (mxW cI cL cM a v) H := hP
            have hD : va_D A (mxW cI cL cM a v) := hD
            have hw9 : (mxW cI cL cM a v) = (mxW cI cL cM a (x_dec x q)) := by (rw [hdx])
            rw [hw9] at hP hD
            refine vx_ret ?_
            refine W.widen (k := 3) (n := 18) (Nat.le_of_ble_eq_true rfl) (Nat.le_of_ble_eq_true rfl) ?_
            exact W.iret (v := (dfX v (max (q_c (x_tx v)) (q_c (x_de v))))) hx hb hr (fun t ht hW => ⟨⟨(dfX v (max (q_c (x_tx v)) (q_c (x_de v)))), (), rfl, ⟨by (rw [hdx]), (by unfold cdDec; rw [if_neg ga])⟩, by rw [ht]; exact hP, hD⟩, hS.F ht⟩) hS.2.2 dX4_decode_80
          · replace cj : ¬ (nI j) ≤ (nI k9) := cj
            have hkj : k9 < j := nge_N (by omega) (by omega) cj
            refine lv_aload_n hx hb dX4_decode_59 rfl (lv_at hl 2 rfl) ?_
            refine va_get (D := D) (ci := 4) (v := .ref (a 5)) (C := RX4) (T := TX4) (N := 5) hx hb hts (fun _ h => List.mem_cons_of_mem _ (List.mem_append_left _ (List.mem_append_left _ (List.mem_append_left _ (List.mem_append_left _ (List.mem_append_left _ (List.mem_append_right _ h))))))) hown hK hP 0 rfl rfl 2 (by decide) (hts _ (List.mem_of_getElem? (i := 6) rfl)) (fun _ h9 => h9) rfl dX4_decode_60 ?_
            refine lv_aload_n hx hb dX4_decode_63 rfl (lv_at hl 2 rfl) ?_
            refine kIa (rVa (As := []) (rest := [.ref (a 5)]) ⟨hx, hb, hml, hown, hts⟩ (c_X4_decodeByte l D cI cL cM _ a v  J hJ hvJ (by rw [hve]; exact hec)) (cwV 0 hts gX4_decode_X4_decodeByte rfl rfl rfl (by decide +kernel) ⟨(Nat.le_of_ble_eq_true rfl), (Nat.le_of_ble_eq_true rfl)⟩) hE hP hD hS hA 0 rfl rfl rfl hl.1 rfl (Nat.le_of_ble_eq_true rfl) dX4_decode_64 ⟨(Nat.le_of_ble_eq_true rfl), (Nat.le_of_ble_eq_true rfl)⟩) hS (fun H locs hP hD hS => ?_)
            have hP : va_P D vwCl (mxW cI cL cM a ((x_dby v 8).1)) H := hP
            have hD : va_D A (mxW cI cL cM a ((x_dby v 8).1)) := hD
            obtain ⟨s1, hs1⟩ : ∃ y9 : Mx, y9 = ((x_dby v 8).1) := ⟨_, rfl⟩
            rw [← hs1] at hP hD
            have hse : x_de s1 = x_de v := by rw [hs1]; exact x_dby_de _ 8
            refine lv_topi (fun vl5 hvl5 => ?_)
            refine kV (rV (As := [.int vl5]) (rest := []) ⟨hx, hb, hml, hown, hts⟩ (c_X0_append l D cI cL cM _ (a 5) (a 6) 80 (x_de s1) vl5 (by rw [hse]; exact hvd) (Nat.le_of_ble_eq_true rfl)) (cwV 1 hts gX4_decode_X0_append rfl rfl rfl (by decide +kernel) ⟨(Nat.le_of_ble_eq_true rfl), (Nat.le_of_ble_eq_true rfl)⟩) hE hP hD [5, 6] rfl rfl rfl rfl rfl hl.1 rfl (Nat.le_of_ble_eq_true rfl) dX4_decode_67 ⟨(Nat.le_of_ble_eq_true rfl), (Nat.le_of_ble_eq_true rfl)⟩) hP hD hS hA (is := [5, 6]) rfl rfl (fun H locs hP hD hS => ?_)
            rw [mxW_de] at hP hD
            have hP : va_P D vwCl (mxW cI cL cM a (xs_de s1 (q_app 80 (x_de s1) vl5))) H := hP
            have hD : va_D A (mxW cI cL cM a (xs_de s1 (q_app 80 (x_de s1) vl5))) := hD
            refine lv_iinc (v := nI (k9 + 1)) (lv' := [(2, .int (nI (k9 + 1))), (1, .int q), (0, .ref (a 0))]) hx hb dX4_decode_70 hl (k := 0) rfl (nI_1 _) (by decide) rfl (fun ls hl => ?_)
            refine lv_goto (tgt := 54) hx hb dX4_decode_73 (by decide) ?_
            have e9 : (xs_de s1 (q_app 80 (x_de s1) vl5)) = x_dap v := by rw [hvl5, hs1]; rfl
            exact ih_lpd (k9 + 1) (xs_de s1 (q_app 80 (x_de s1) vl5)) (by omega) (by rw [e9, hv]; rfl) (by rw [e9]; exact x_dap_J hJ _ hvJ) (by rw [e9]; exact (x_dap_tx _).trans hvt) (by rw [e9]; exact (x_dap_en _).trans hve) (by rw [e9]; exact x_dap_dc hvd) (by omega) _ _ hP hD hS ls (lv_sub hl [0, 1, 2] rfl)
      exact lpd _ 0 d1 (Nat.zero_le _) (rfl) (hJ1) (htx1) (hen1) (hdc1) (Nat.lt_succ_self _) _ _ hP hD hS ls (lv_sub hl [0, 2, 1] rfl)
    · replace c2 : ¬ q ≤ (80 : Int32) := c2
      have ga : isI q 0 80 = 0 := isI_b (i_lt c2)
      exact vx_throwS (text := "many is not 0 to 80") (names := xNames) (sa := sa 181) (A := A) hx hb hnt hown (by decide) (by decide) (hts _ (List.mem_of_getElem? (i := 1) rfl)) (hts _ (List.mem_of_getElem? (i := 2) rfl)) (hEX.2.2.2.1 (181, "many is not 0 to 80") (by decide)) (vx_hat (fun w hw => hts w ((fun _ h => List.mem_cons_of_mem _ (List.mem_append_right _ h)) w hw)) iae_bad (xW_use hEX.2.2.2.2 _)) iae_good hEX.2.1 hEX.2.2.1 hS (hl.1.trans hml.symm) dX4_decode_10 dX4_decode_13 dX4_decode_14 dX4_decode_16 dX4_decode_19 (fun x hx9 => (htab x hx9).elim) (Nat.le_of_ble_eq_true rfl) (Nat.le_of_ble_eq_true rfl) (Nat.le_of_ble_eq_true rfl) (Nat.le_of_ble_eq_true rfl) hlocks (fun t hvm hz hk => ⟨(), trivial, ⟨⟨rfl, (by unfold cdDec; rw [if_pos ga])⟩, kept_P hP hk, hD⟩, thF hS hz hk⟩) hS.2.2 (Nat.le_of_ble_eq_true rfl) (Nat.le_of_ble_eq_true rfl)
