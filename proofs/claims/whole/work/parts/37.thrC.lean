/-! ===== setRate, feed, fill ===== -/
theorem xs_pr_pr (x : Mx) (k k' : Pr) : xs_pr (xs_pr x k) k' = xs_pr x k' := rfl
theorem xs_tx_tx (x : Mx) (k k' : Row) : xs_tx (xs_tx x k) k' = xs_tx x k' := rfl
theorem isI_j {q : Int32} {lo hi : Nat} (hl : lo < 1073741824) (hh : hi < 1073741824) (h : ¬ isI q (nI lo) (nI hi) = 0) : ∃ j : Nat, lo ≤ j ∧ j ≤ hi ∧ q = nI j := by
  unfold isI at h
  split at h
  · exact absurd rfl h
  · rename_i h1
    split at h
    · exact absurd rfl h
    · rename_i h2
      rw [Int32.lt_iff_toInt_lt, nI_toInt (by omega)] at h1 h2
      refine ⟨q.toInt.toNat, by omega, by omega, ?_⟩
      refine Int32.toInt_inj.mp ?_
      rw [nI_toInt (by omega)]
      omega
def fbX (w : Int64) (k : Nat) : Int32 := ((w.toUInt64 >>> ((8 * nI k).toInt64.toUInt64 &&& Int64.toUInt64 63)).toInt64).toInt32 &&& 255
def q_fd (w : Int64) : Nat → Row → Row
  | 0, r => r
  | k + 1, r => q_fd w k (q_app 80 r (fbX w k))
theorem q_fd_s {w : Int64} {k : Nat} {r : Row} (h : 1 ≤ k) : q_fd w (k - 1) (q_app 80 r (fbX w (k - 1))) = q_fd w k r := by
  obtain ⟨j, rfl⟩ : ∃ j, k = j + 1 := ⟨k - 1, by omega⟩
  rfl
def q_fl (v : Int32) : Nat → Row → Row
  | 0, r => r
  | k + 1, r => q_app 80 (q_fl v k r) v
theorem q_fl_le (v : Int32) (r : Row) (h : q_c r ≤ 80) : ∀ k, q_c (q_fl v k r) ≤ 80
  | 0 => h
  | k + 1 => q_app_le v (q_fl_le v r h k)
def cdFee (x : Mx) (q : Int32) : Int32 := if isI q 1 8 = 0 then 1 else if q_c (x_tx x) + q.toNatClampNeg ≤ 80 then 0 else 2
def cdFil (x : Mx) (v q : Int32) : Int32 := if isI v 0 255 = 0 then 1 else if isI q 1 80 = 0 then 1 else if q_c (x_tx x) + q.toNatClampNeg ≤ 80 then 0 else 2
def x_rat (x : Mx) (q y : Int32) : Mx := xs_pr x (k_rs (ks_mo (x_pr x) (setM (k_mo (x_pr x)) q.toNatClampNeg (os_rt (k_mo (x_pr x) q.toNatClampNeg) y))))

set_option maxHeartbeats 4000000 in
set_option maxRecDepth 100000 in
theorem c_X4_setRate (l : Launch) (hnt : l.stackTraces = false) (D : va_G) (cI cL cM : ClassId) (A : Nat → Prop) (sa : Nat → Nat) (a : Nat → Nat) (x : Mx) (q y : Int32) (hn6 : k_n (x_pr x) ≤ 6) : mIy l yX4_setRate wsX4_setRate ({ frames := 7, cells := 3, slots := 18, locals := 111 }) D (tB cI cL cM) A sa [.ref (a 0), .int q, .int y] (mxW cI cL cM a x) (o_rt (k_mo (x_pr x) q.toNatClampNeg)) (mxW cI cL cM a (x_rat x q y)) (cdRat x q y = 0) (TH2 IOB IAE (cdRat x q y)) 3 18 := by
  refine vx_ofW (cc := cX4_setRate) (maxL := 5) (ret := (some .int)) (by decide) rfl ?_
  intro p e s m args below meth c s₁ B hml htab hv
  obtain ⟨rfl, hP, hEX, hD, hA⟩ := hv
  have hE := hEX.1
  have hK := hE.1
  have hx := B.exec
  have hb := B.bytes
  have hr := B.returns
  have hts := atoms_spec (ws := wsX4_setRate) B.pre
  have hown : s.vm.findClass RX4 = some m.cls := findClass_of_methodNamed B.named
  have hlocks := B.notSynchronized
  have hS : va_S A s.heap s.heap [] := va_S.rf
  have hl := lv_entry ([.ref (a 0), .int q, .int y]) (n := 5) (Nat.le_of_ble_eq_true rfl)
  rw [lg_entry_eq]
  generalize (lg_sl ([.ref (a 0), .int q, .int y]) ++ List.replicate (5 - (lg_sl ([.ref (a 0), .int q, .int y])).length) Slot.unset).toArray = ls at hl ⊢
  have hl : lv_has ls 5 [(0, .ref (a 0)), (1, .int q), (2, .int y)] := hl
  refine lv_aload_n hx hb dX4_setRate_0 rfl (lv_at hl 0 rfl) ?_
  refine lv_iload_n hx hb dX4_setRate_1 rfl (lv_at hl 1 rfl) ?_
  refine kRxa (xVa (As := [.int q]) (rest := []) ⟨hx, hb, hml, hown, hts⟩ (c_X4_requireModel l hnt D cI cL cM _ sa a x q hn6) (cwV 1 hts gX4_setRate_X4_requireModel rfl rfl rfl (by decide +kernel) ⟨(Nat.le_of_ble_eq_true rfl), (Nat.le_of_ble_eq_true rfl)⟩) hEX hP hD hS hA 0 rfl rfl rfl hl.1 rfl (Nat.le_of_ble_eq_true rfl) dX4_setRate_2 ⟨(Nat.le_of_ble_eq_true rfl), (Nat.le_of_ble_eq_true rfl)⟩) hS (fun E9 ce9 q9 H locs hth9 hP hD hS h91 h92 h93 => ?_) (fun H locs gm hP hD hS => ?_)
  · exact vx_out (fun x hx9 => (htab x hx9).elim) hlocks h91 h92 h93 (fun t ht _ => ⟨(), trivial, ⟨Or.inl ⟨hth9.1, (by unfold cdRat; rw [if_pos hth9.2])⟩, by rw [ht]; exact hP, hD⟩, hS.F ht⟩) hS.2.2 (Nat.le_of_ble_eq_true rfl) (Nat.le_of_ble_eq_true rfl)
  have hP : va_P D vwCl (mxW cI cL cM a x) H := hP
  have hD : va_D A (mxW cI cL cM a x) := hD
  have hmn : q.toNatClampNeg < k_n (x_pr x) := isI_N (by omega) gm
  have hm6 : q.toNatClampNeg < 6 := by omega
  refine lv_astore_n (lv' := [(3, .ref (a (11 + 4 * q.toNatClampNeg))), (0, .ref (a 0)), (1, .int q), (2, .int y)]) hx hb dX4_setRate_5 rfl hl (by decide) rfl (fun ls hl => ?_)
  refine lv_iload_n hx hb dX4_setRate_6 rfl (lv_at hl 3 rfl) ?_
  refine kVx (xS (As := [.int y]) (rest := []) ⟨hx, hb, hml, hown, hts⟩ (c_X4_requireRate l hnt D cI cL cM _ sa [] y ) (va_cwS 1 hts gX4_setRate_X4_requireRate rfl rfl rfl (by decide +kernel) ⟨(Nat.le_of_ble_eq_true rfl), (Nat.le_of_ble_eq_true rfl)⟩) hEX hP hD hS hA [] rfl rfl rfl hl.1 rfl (Nat.le_of_ble_eq_true rfl) dX4_setRate_7 ⟨(Nat.le_of_ble_eq_true rfl), (Nat.le_of_ble_eq_true rfl)⟩) hP hD hS hA (is := []) rfl rfl (fun E9 ce9 q9 H locs hth9 hP hS h91 h92 h93 => ?_) (fun H locs gr hP hD hS => ?_)
  · exact vx_out (fun x hx9 => (htab x hx9).elim) hlocks h91 h92 h93 (fun t ht _ => ⟨(), trivial, ⟨Or.inr ⟨hth9.1, (by unfold cdRat; rw [if_neg gm, if_pos hth9.2])⟩, by rw [ht]; exact hP, hD⟩, hS.F ht⟩) hS.2.2 (Nat.le_of_ble_eq_true rfl) (Nat.le_of_ble_eq_true rfl)
  rw [putW_nil] at hP hD
  have hP : va_P D vwCl (mxW cI cL cM a x) H := hP
  have hD : va_D A (mxW cI cL cM a x) := hD
  refine lv_aload_n hx hb dX4_setRate_10 rfl (lv_at hl 0 rfl) ?_
  refine va_get (D := D) (ci := 2) (v := .int (o_rt ((k_mo (x_pr x)) q.toNatClampNeg))) (C := RX2) (T := TX2) (N := 10) hx hb hts (fun _ h => List.mem_cons_of_mem _ (List.mem_append_left _ (List.mem_append_left _ (List.mem_append_left _ (List.mem_append_left _ (List.mem_append_right _ h)))))) hown hK hP (10 + 4 * q.toNatClampNeg) (mxW_o cI cL cM a _ hm6) rfl 1 (by decide) (hts _ (List.mem_of_getElem? (i := 1) rfl)) (fun _ h9 => h9) rfl dX4_setRate_11 ?_
  refine lv_istore (lv' := [(4, .int (o_rt ((k_mo (x_pr x)) q.toNatClampNeg))), (3, .ref (a (11 + 4 * q.toNatClampNeg))), (0, .ref (a 0)), (1, .int q), (2, .int y)]) hx hb dX4_setRate_14 hl (by decide) rfl (fun ls hl => ?_)
  refine lv_aload_n hx hb dX4_setRate_16 rfl (lv_at hl 1 rfl) ?_
  refine lv_iload_n hx hb dX4_setRate_17 rfl (lv_at hl 4 rfl) ?_
  refine va_put (D := D) (ci := 2) (v := .int y) (ty := .int) (C := RX2) (T := TX2) (N := 10) hx hb hts (fun _ h => List.mem_cons_of_mem _ (List.mem_append_left _ (List.mem_append_left _ (List.mem_append_left _ (List.mem_append_left _ (List.mem_append_right _ h)))))) tyX2 tyX2_ok nmX2 hown hK hP hD hS (10 + 4 * q.toNatClampNeg) (mxW_o cI cL cM a _ hm6) rfl 1 (by decide) (hts _ (List.mem_of_getElem? (i := 1) rfl)) (fun _ h9 => h9) rfl (by decide +kernel) rfl rfl (Nat.le_of_ble_eq_true rfl) dX4_setRate_18 (fun H locs hP hD hS => ?_)
  rw [mxW_rt cI cL cM a _ hm6] at hP hD
  have hP : va_P D vwCl (mxW cI cL cM a (xs_pr x (ks_mo (x_pr x) (setM (k_mo (x_pr x)) q.toNatClampNeg (os_rt (k_mo (x_pr x) q.toNatClampNeg) y))))) H := hP
  have hD : va_D A (mxW cI cL cM a (xs_pr x (ks_mo (x_pr x) (setM (k_mo (x_pr x)) q.toNatClampNeg (os_rt (k_mo (x_pr x) q.toNatClampNeg) y))))) := hD
  refine lv_aload_n hx hb dX4_setRate_21 rfl (lv_at hl 2 rfl) ?_
  refine va_get (D := D) (ci := 4) (v := .ref (a 7)) (C := RX4) (T := TX4) (N := 5) hx hb hts (fun _ h => List.mem_cons_of_mem _ (List.mem_append_left _ (List.mem_append_left _ (List.mem_append_left _ (List.mem_append_right _ h))))) hown hK hP 0 rfl rfl 3 (by decide) (hts _ (List.mem_of_getElem? (i := 2) rfl)) (fun _ h9 => h9) rfl dX4_setRate_22 ?_
  refine kV (rV (As := []) (rest := []) ⟨hx, hb, hml, hown, hts⟩ (c_X3_restart l D cI cL cM _ a (ks_mo (x_pr x) (setM (k_mo (x_pr x)) q.toNatClampNeg (os_rt (k_mo (x_pr x) q.toNatClampNeg) y)))  (show k_n (x_pr x) ≤ 6 from hn6)) (cwV 0 hts gX4_setRate_X3_restart rfl rfl rfl (by decide +kernel) ⟨(Nat.le_of_ble_eq_true rfl), (Nat.le_of_ble_eq_true rfl)⟩) hE hP hD [7, 8, 9, 10, 11, 12, 13, 14, 15, 16, 17, 18, 19, 20, 21, 22, 23, 24, 25, 26, 27, 28, 29, 30, 31, 32, 33] segnd (mxW_prC cI cL cM a _) rfl rfl rfl hl.1 rfl (Nat.le_of_ble_eq_true rfl) dX4_setRate_25 ⟨(Nat.le_of_ble_eq_true rfl), (Nat.le_of_ble_eq_true rfl)⟩) hP hD hS hA (is := [7, 8, 9, 10, 11, 12, 13, 14, 15, 16, 17, 18, 19, 20, 21, 22, 23, 24, 25, 26, 27, 28, 29, 30, 31, 32, 33]) (mxW_prC cI cL cM a _) (prW_fst cI cL cM a _ _) (fun H locs hP hD hS => ?_)
  rw [mxW_pr] at hP hD
  have hP : va_P D vwCl (mxW cI cL cM a (xs_pr (xs_pr x (ks_mo (x_pr x) (setM (k_mo (x_pr x)) q.toNatClampNeg (os_rt (k_mo (x_pr x) q.toNatClampNeg) y)))) (k_rs (ks_mo (x_pr x) (setM (k_mo (x_pr x)) q.toNatClampNeg (os_rt (k_mo (x_pr x) q.toNatClampNeg) y)))))) H := hP
  have hD : va_D A (mxW cI cL cM a (xs_pr (xs_pr x (ks_mo (x_pr x) (setM (k_mo (x_pr x)) q.toNatClampNeg (os_rt (k_mo (x_pr x) q.toNatClampNeg) y)))) (k_rs (ks_mo (x_pr x) (setM (k_mo (x_pr x)) q.toNatClampNeg (os_rt (k_mo (x_pr x) q.toNatClampNeg) y)))))) := hD
  refine lv_iload hx hb dX4_setRate_28 (lv_at hl 0 rfl) ?_
  have hw9 : (mxW cI cL cM a (xs_pr (xs_pr x (ks_mo (x_pr x) (setM (k_mo (x_pr x)) q.toNatClampNeg (os_rt (k_mo (x_pr x) q.toNatClampNeg) y)))) (k_rs (ks_mo (x_pr x) (setM (k_mo (x_pr x)) q.toNatClampNeg (os_rt (k_mo (x_pr x) q.toNatClampNeg) y)))))) = (mxW cI cL cM a (x_rat x q y)) := by rfl
  rw [hw9] at hP hD
  refine vx_ret ?_
  refine W.widen (k := 3) (n := 18) (Nat.le_of_ble_eq_true rfl) (Nat.le_of_ble_eq_true rfl) ?_
  exact W.iret (v := (o_rt ((k_mo (x_pr x)) q.toNatClampNeg))) hx hb hr (fun t ht hW => ⟨⟨(o_rt ((k_mo (x_pr x)) q.toNatClampNeg)), (), rfl, ⟨by rfl, (by unfold cdRat; rw [if_neg gm, if_neg gr])⟩, by rw [ht]; exact hP, hD⟩, hS.F ht⟩) hS.2.2 dX4_setRate_30

set_option maxHeartbeats 4000000 in
set_option maxRecDepth 100000 in
theorem c_X4_feed (l : Launch) (hnt : l.stackTraces = false) (D : va_G) (cI cL cM : ClassId) (A : Nat → Prop) (sa : Nat → Nat) (a : Nat → Nat) (x : Mx) (w : Int64) (q : Int32) (htc : q_c (x_tx x) ≤ 80) : mIy l yX4_feed wsX4_feed ({ frames := 7, cells := 3, slots := 18, locals := 111 }) D (tB cI cL cM) A sa [.ref (a 0), .long w, .int q] (mxW cI cL cM a x) (nI (q_c (q_fd w q.toNatClampNeg (x_tx x)))) (mxW cI cL cM a (xs_tx x (q_fd w q.toNatClampNeg (x_tx x)))) (cdFee x q = 0) (TH2 IAE ISE (cdFee x q)) 3 18 := by
  refine vx_ofW (cc := cX4_feed) (maxL := 5) (ret := (some .int)) (by decide) rfl ?_
  intro p e s m args below meth c s₁ B hml htab hv
  obtain ⟨rfl, hP, hEX, hD, hA⟩ := hv
  have hE := hEX.1
  have hK := hE.1
  have hx := B.exec
  have hb := B.bytes
  have hr := B.returns
  have hts := atoms_spec (ws := wsX4_feed) B.pre
  have hown : s.vm.findClass RX4 = some m.cls := findClass_of_methodNamed B.named
  have hlocks := B.notSynchronized
  have hS : va_S A s.heap s.heap [] := va_S.rf
  have hl := lv_entry ([.ref (a 0), .long w, .int q]) (n := 5) (Nat.le_of_ble_eq_true rfl)
  rw [lg_entry_eq]
  generalize (lg_sl ([.ref (a 0), .long w, .int q]) ++ List.replicate (5 - (lg_sl ([.ref (a 0), .long w, .int q])).length) Slot.unset).toArray = ls at hl ⊢
  have hl : lv_has ls 5 [(0, .ref (a 0)), (1, .long w), (3, .int q)] := hl
  refine lv_iload_n hx hb dX4_feed_0 rfl (lv_at hl 2 rfl) ?_
  refine lv_iconst (v := 1) hx hb dX4_feed_1 (by decide) ?_
  refine lv_icmp_lt (tgt := 11) hx hb dX4_feed_2 (by decide) (fun c1 => ?_) (fun c1 => ?_)
  · replace c1 : q < (1 : Int32) := c1
    have ga : isI q 1 8 = 0 := isI_a c1
    exact vx_throwS (text := "many is not 1 to 8") (names := xNames) (sa := sa 80) (A := A) hx hb hnt hown (by decide) (by decide) (hts _ (List.mem_of_getElem? (i := 1) rfl)) (hts _ (List.mem_of_getElem? (i := 2) rfl)) (hEX.2.2.2.1 (80, "many is not 1 to 8") (by decide)) (vx_hat (fun w hw => hts w ((fun _ h => List.mem_cons_of_mem _ (List.mem_append_left _ (List.mem_append_right _ h))) w hw)) iae_bad (xW_use hEX.2.2.2.2 _)) iae_good hEX.2.1 hEX.2.2.1 hS (hl.1.trans hml.symm) dX4_feed_11 dX4_feed_14 dX4_feed_15 dX4_feed_17 dX4_feed_20 (fun x hx9 => (htab x hx9).elim) (Nat.le_of_ble_eq_true rfl) (Nat.le_of_ble_eq_true rfl) (Nat.le_of_ble_eq_true rfl) (Nat.le_of_ble_eq_true rfl) hlocks (fun t hvm hz hk => ⟨(), trivial, ⟨Or.inl ⟨rfl, (by unfold cdFee; rw [if_pos ga])⟩, kept_P hP hk, hD⟩, thF hS hz hk⟩) hS.2.2 (Nat.le_of_ble_eq_true rfl) (Nat.le_of_ble_eq_true rfl)
  · replace c1 : ¬ q < (1 : Int32) := c1
    refine lv_iload_n hx hb dX4_feed_5 rfl (lv_at hl 2 rfl) ?_
    refine lv_bipush (v := 8) hx hb dX4_feed_6 (by decide) ?_
    refine lv_icmp_le (tgt := 21) hx hb dX4_feed_8 (by decide) (fun c2 => ?_) (fun c2 => ?_)
    · replace c2 : q ≤ (8 : Int32) := c2
      have ga : ¬ isI q 1 8 = 0 := isI_1 c1 (i_nlt c2)
      obtain ⟨j, hj1, hj8, hq9⟩ := isI_j (lo := 1) (hi := 8) (Nat.le_of_ble_eq_true rfl) (Nat.le_of_ble_eq_true rfl) ga
      have hcl := clN hq9 (Nat.lt_succ_of_le hj8) (Nat.le_of_ble_eq_true rfl)
      refine lv_aload_n hx hb dX4_feed_21 rfl (lv_at hl 0 rfl) ?_
      refine lv_iload_n hx hb dX4_feed_22 rfl (lv_at hl 2 rfl) ?_
      refine topI (y := nI j) (hq9) ?_
      refine kVxa (xVa (As := [.int (nI j)]) (rest := []) ⟨hx, hb, hml, hown, hts⟩ (c_X4_requireRoom l hnt D cI cL cM _ sa a x j (by omega) htc) (cwV 1 hts gX4_feed_X4_requireRoom rfl rfl rfl (by decide +kernel) ⟨(Nat.le_of_ble_eq_true rfl), (Nat.le_of_ble_eq_true rfl)⟩) hEX hP hD hS hA 0 rfl rfl rfl hl.1 rfl (Nat.le_of_ble_eq_true rfl) dX4_feed_23 ⟨(Nat.le_of_ble_eq_true rfl), (Nat.le_of_ble_eq_true rfl)⟩) hS (fun E9 ce9 q9 H locs hth9 hP hD hS h91 h92 h93 => ?_) (fun H locs gb hP hD hS => ?_)
      · exact vx_out (fun x hx9 => (htab x hx9).elim) hlocks h91 h92 h93 (fun t ht _ => ⟨(), trivial, ⟨Or.inr ⟨hth9.1, by unfold cdFee; rw [if_neg ga, hcl, if_neg hth9.2]⟩, by rw [ht]; exact hP, hD⟩, hS.F ht⟩) hS.2.2 (Nat.le_of_ble_eq_true rfl) (Nat.le_of_ble_eq_true rfl)
      have hP : va_P D vwCl (mxW cI cL cM a x) H := hP
      have hD : va_D A (mxW cI cL cM a x) := hD
      have gb : q_c (x_tx x) + q.toNatClampNeg ≤ 80 := by rw [hcl]; exact gb
      refine lv_iload_n hx hb dX4_feed_26 rfl (lv_at hl 2 rfl) ?_
      refine lv_iconst (v := 1) hx hb dX4_feed_27 (by decide) ?_
      refine lv_isub hx hb dX4_feed_28 ?_
      refine topI (y := nI j - 1) (by rw [hq9]) ?_
      refine lv_istore (lv' := [(4, .int (nI j - 1)), (0, .ref (a 0)), (1, .long w), (3, .int q)]) hx hb dX4_feed_29 hl (by decide) rfl (fun ls hl => ?_)
      have lpf : ∀ (n9 : Nat) (k9 : Nat) (r9 : Row) (hk9 : k9 ≤ 8) (hr9 : q_fd w k9 r9 = q_fd w j (x_tx x)) (hc9 : q_c r9 ≤ 80), k9 < n9 → ∀ (H : Heap) (locs : List Loc), va_P D vwCl (mxW cI cL cM a (xs_tx x r9)) H → va_D A (mxW cI cL cM a (xs_tx x r9)) → va_S A s.heap H locs → ∀ (ls : Array Slot), lv_has ls 5 [(4, .int (nI k9 - 1)), (3, .int q), (1, .long w), (0, .ref (a 0))] → W p l e (headSpec wsX4_feed ({ frames := 7, cells := 3, slots := 18, locals := 111 })).room s m (([.ref (a 0), .long w, .int q] : List Value).toArray) below meth c H locs 1 6 (vx_MQ below (va_Qi (fun x9 (_ : Unit) => x9 = (nI (q_c (q_fd w q.toNatClampNeg (x_tx x)))) ∧ cdFee x q = 0) (fun _ t => hq D A (mxW cI cL cM a (xs_tx x (q_fd w q.toNatClampNeg (x_tx x)))) t) A) (vx_X (fun (_ : Unit) => True) (fun E _ t => (TH2 IAE ISE (cdFee x q)) E ∧ hq D A (mxW cI cL cM a x) t) A) (([.ref (a 0), .long w, .int q] : List Value).toArray) s 3 18 A) (F0 m 31 ls []) := by
        intro n9
        induction n9 with
        | zero => intro k9 r9 hk9 hr9 hc9 hm9; exact absurd hm9 (Nat.not_lt_zero _)
        | succ n9 ih_lpf =>
          intro k9 r9 hk9 hr9 hc9 hm9 H locs hP hD hS ls hl
          refine lv_iload hx hb dX4_feed_31 (lv_at hl 0 rfl) ?_
          refine lv_if_lt (tgt := 61) hx hb dX4_feed_33 (by decide) (fun cj => ?_) (fun cj => ?_)
          · replace cj : (nI k9 - 1) < (0 : Int32) := cj
            have hk0 : k9 = 0 := by rcases Nat.eq_zero_or_pos k9 with h9 | h9; exact h9; exact absurd cj (by rw [show nI k9 - 1 = nI (k9 - 1) from pk_sub (b := 1) h9, Int32.lt_iff_toInt_lt, nI_toInt (by omega), tI0]; omega)
            refine lv_aload_n hx hb dX4_feed_61 rfl (lv_at hl 3 rfl) ?_
            refine va_get (D := D) (ci := 4) (v := .ref (a 1)) (C := RX4) (T := TX4) (N := 5) hx hb hts (fun _ h => List.mem_cons_of_mem _ (List.mem_append_left _ (List.mem_append_left _ (List.mem_append_left _ (List.mem_append_right _ h))))) hown hK hP 0 rfl rfl 0 (by decide) (hts _ (List.mem_of_getElem? (i := 3) rfl)) (fun _ h9 => h9) rfl dX4_feed_62 ?_
            refine va_get (D := D) (ci := 0) (v := .int (nI (q_c r9))) (C := RX0) (T := TX0) (N := 2) hx hb hts (fun _ h => List.mem_cons_of_mem _ (List.mem_append_left _ (List.mem_append_left _ (List.mem_append_right _ h)))) hown hK hP 1 rfl rfl 1 (by decide) (hts _ (List.mem_of_getElem? (i := 4) rfl)) (fun _ h9 => h9) rfl dX4_feed_65 ?_
            have hw9 : (mxW cI cL cM a (xs_tx x r9)) = (mxW cI cL cM a (xs_tx x (q_fd w q.toNatClampNeg (x_tx x)))) := by (rw [hcl, ← hr9, hk0]; rfl)
            rw [hw9] at hP hD
            refine vx_ret ?_
            refine W.widen (k := 3) (n := 18) (Nat.le_of_ble_eq_true rfl) (Nat.le_of_ble_eq_true rfl) ?_
            exact W.iret (v := nI (q_c r9)) hx hb hr (fun t ht hW => ⟨⟨(nI (q_c r9)), (), rfl, ⟨by (rw [hcl, ← hr9, hk0]; rfl), (by unfold cdFee; rw [if_neg ga, if_pos gb])⟩, by rw [ht]; exact hP, hD⟩, hS.F ht⟩) hS.2.2 dX4_feed_68
          · replace cj : ¬ (nI k9 - 1) < (0 : Int32) := cj
            have hk1 : 1 ≤ k9 := by rcases Nat.eq_zero_or_pos k9 with h9 | h9; (exact absurd (show nI k9 - 1 < (0 : Int32) by rw [h9]; decide) cj); exact h9
            have hs1 : nI k9 - 1 = nI (k9 - 1) := pk_sub (b := 1) hk1
            refine lv_aload_n hx hb dX4_feed_36 rfl (lv_at hl 3 rfl) ?_
            refine va_get (D := D) (ci := 4) (v := .ref (a 1)) (C := RX4) (T := TX4) (N := 5) hx hb hts (fun _ h => List.mem_cons_of_mem _ (List.mem_append_left _ (List.mem_append_left _ (List.mem_append_left _ (List.mem_append_right _ h))))) hown hK hP 0 rfl rfl 0 (by decide) (hts _ (List.mem_of_getElem? (i := 3) rfl)) (fun _ h9 => h9) rfl dX4_feed_37 ?_
            refine lv_lload_n hx hb dX4_feed_40 rfl (lv_at hl 2 rfl) ?_
            refine lv_bipush (v := 8) hx hb dX4_feed_41 (by decide) ?_
            refine lv_iload hx hb dX4_feed_43 (lv_at hl 0 rfl) ?_
            refine lv_imul hx hb dX4_feed_45 ?_
            refine lv_lushr hx hb dX4_feed_46 rfl ?_
            refine lv_l2i hx hb dX4_feed_47 rfl ?_
            refine lv_sipush (v := 255) hx hb dX4_feed_48 (by decide) ?_
            refine lv_iand hx hb dX4_feed_51 ?_
            refine topI (y := fbX w (k9 - 1)) (by unfold fbX; rw [hs1]) ?_
            refine kV (rV (As := [.int (fbX w (k9 - 1))]) (rest := []) ⟨hx, hb, hml, hown, hts⟩ (c_X0_append l D cI cL cM _ (a 1) (a 2) 80 r9 (fbX w (k9 - 1)) hc9 (Nat.le_of_ble_eq_true rfl)) (cwV 1 hts gX4_feed_X0_append rfl rfl rfl (by decide +kernel) ⟨(Nat.le_of_ble_eq_true rfl), (Nat.le_of_ble_eq_true rfl)⟩) hE hP hD [1, 2] rfl rfl rfl rfl rfl hl.1 rfl (Nat.le_of_ble_eq_true rfl) dX4_feed_52 ⟨(Nat.le_of_ble_eq_true rfl), (Nat.le_of_ble_eq_true rfl)⟩) hP hD hS hA (is := [1, 2]) rfl rfl (fun H locs hP hD hS => ?_)
            rw [mxW_tx] at hP hD
            have hP : va_P D vwCl (mxW cI cL cM a (xs_tx x (q_app 80 r9 (fbX w (k9 - 1))))) H := hP
            have hD : va_D A (mxW cI cL cM a (xs_tx x (q_app 80 r9 (fbX w (k9 - 1))))) := hD
            refine lv_iinc (v := nI (k9 - 1) - 1) (lv' := [(4, .int (nI (k9 - 1) - 1)), (3, .int q), (1, .long w), (0, .ref (a 0))]) hx hb dX4_feed_55 hl (k := 0) rfl (by rw [hs1, Int32.sub_eq_add_neg]; rfl) (by decide) rfl (fun ls hl => ?_)
            refine lv_goto (tgt := 31) hx hb dX4_feed_58 (by decide) ?_
            exact ih_lpf (k9 - 1) (q_app 80 r9 (fbX w (k9 - 1))) (by omega) (by rw [← hr9]; exact q_fd_s hk1) (q_app_le _ hc9) (by omega) _ _ hP hD hS ls (lv_sub hl [0, 1, 2, 3] rfl)
      have hP : va_P D vwCl (mxW cI cL cM a (xs_tx x (x_tx x))) H := hP
      have hD : va_D A (mxW cI cL cM a (xs_tx x (x_tx x))) := hD
      exact lpf _ j (x_tx x) (hj8) (rfl) (htc) (Nat.lt_succ_self _) _ _ hP hD hS ls (lv_sub hl [0, 3, 2, 1] rfl)
    · replace c2 : ¬ q ≤ (8 : Int32) := c2
      have ga : isI q 1 8 = 0 := isI_b (i_lt c2)
      exact vx_throwS (text := "many is not 1 to 8") (names := xNames) (sa := sa 80) (A := A) hx hb hnt hown (by decide) (by decide) (hts _ (List.mem_of_getElem? (i := 1) rfl)) (hts _ (List.mem_of_getElem? (i := 2) rfl)) (hEX.2.2.2.1 (80, "many is not 1 to 8") (by decide)) (vx_hat (fun w hw => hts w ((fun _ h => List.mem_cons_of_mem _ (List.mem_append_left _ (List.mem_append_right _ h))) w hw)) iae_bad (xW_use hEX.2.2.2.2 _)) iae_good hEX.2.1 hEX.2.2.1 hS (hl.1.trans hml.symm) dX4_feed_11 dX4_feed_14 dX4_feed_15 dX4_feed_17 dX4_feed_20 (fun x hx9 => (htab x hx9).elim) (Nat.le_of_ble_eq_true rfl) (Nat.le_of_ble_eq_true rfl) (Nat.le_of_ble_eq_true rfl) (Nat.le_of_ble_eq_true rfl) hlocks (fun t hvm hz hk => ⟨(), trivial, ⟨Or.inl ⟨rfl, (by unfold cdFee; rw [if_pos ga])⟩, kept_P hP hk, hD⟩, thF hS hz hk⟩) hS.2.2 (Nat.le_of_ble_eq_true rfl) (Nat.le_of_ble_eq_true rfl)

set_option maxHeartbeats 4000000 in
set_option maxRecDepth 100000 in
theorem c_X4_fill (l : Launch) (hnt : l.stackTraces = false) (D : va_G) (cI cL cM : ClassId) (A : Nat → Prop) (sa : Nat → Nat) (a : Nat → Nat) (x : Mx) (v q : Int32) (htc : q_c (x_tx x) ≤ 80) : mIy l yX4_fill wsX4_fill ({ frames := 7, cells := 3, slots := 18, locals := 111 }) D (tB cI cL cM) A sa [.ref (a 0), .int v, .int q] (mxW cI cL cM a x) (nI (q_c (q_fl v q.toNatClampNeg (x_tx x)))) (mxW cI cL cM a (xs_tx x (q_fl v q.toNatClampNeg (x_tx x)))) (cdFil x v q = 0) (TH2 IAE ISE (cdFil x v q)) 3 18 := by
  refine vx_ofW (cc := cX4_fill) (maxL := 4) (ret := (some .int)) (by decide) rfl ?_
  intro p e s m args below meth c s₁ B hml htab hv
  obtain ⟨rfl, hP, hEX, hD, hA⟩ := hv
  have hE := hEX.1
  have hK := hE.1
  have hx := B.exec
  have hb := B.bytes
  have hr := B.returns
  have hts := atoms_spec (ws := wsX4_fill) B.pre
  have hown : s.vm.findClass RX4 = some m.cls := findClass_of_methodNamed B.named
  have hlocks := B.notSynchronized
  have hS : va_S A s.heap s.heap [] := va_S.rf
  have hl := lv_entry ([.ref (a 0), .int v, .int q]) (n := 4) (Nat.le_of_ble_eq_true rfl)
  rw [lg_entry_eq]
  generalize (lg_sl ([.ref (a 0), .int v, .int q]) ++ List.replicate (4 - (lg_sl ([.ref (a 0), .int v, .int q])).length) Slot.unset).toArray = ls at hl ⊢
  have hl : lv_has ls 4 [(0, .ref (a 0)), (1, .int v), (2, .int q)] := hl
  refine lv_iload_n hx hb dX4_fill_0 rfl (lv_at hl 1 rfl) ?_
  refine kVx (xS (As := [.int v]) (rest := []) ⟨hx, hb, hml, hown, hts⟩ (c_X4_requireByte l hnt D cI cL cM _ sa [] v ) (va_cwS 1 hts gX4_fill_X4_requireByte rfl rfl rfl (by decide +kernel) ⟨(Nat.le_of_ble_eq_true rfl), (Nat.le_of_ble_eq_true rfl)⟩) hEX hP hD hS hA [] rfl rfl rfl hl.1 rfl (Nat.le_of_ble_eq_true rfl) dX4_fill_1 ⟨(Nat.le_of_ble_eq_true rfl), (Nat.le_of_ble_eq_true rfl)⟩) hP hD hS hA (is := []) rfl rfl (fun E9 ce9 q9 H locs hth9 hP hS h91 h92 h93 => ?_) (fun H locs gv hP hD hS => ?_)
  · exact vx_out (fun x hx9 => (htab x hx9).elim) hlocks h91 h92 h93 (fun t ht _ => ⟨(), trivial, ⟨Or.inl ⟨hth9.1, (by unfold cdFil; rw [if_pos hth9.2])⟩, by rw [ht]; exact hP, hD⟩, hS.F ht⟩) hS.2.2 (Nat.le_of_ble_eq_true rfl) (Nat.le_of_ble_eq_true rfl)
  rw [putW_nil] at hP hD
  have hP : va_P D vwCl (mxW cI cL cM a x) H := hP
  have hD : va_D A (mxW cI cL cM a x) := hD
  refine lv_iload_n hx hb dX4_fill_4 rfl (lv_at hl 2 rfl) ?_
  refine lv_iconst (v := 1) hx hb dX4_fill_5 (by decide) ?_
  refine lv_icmp_lt (tgt := 15) hx hb dX4_fill_6 (by decide) (fun c1 => ?_) (fun c1 => ?_)
  · replace c1 : q < (1 : Int32) := c1
    have ga : isI q 1 80 = 0 := isI_a c1
    exact vx_throwS (text := "many is not 1 to 80") (names := xNames) (sa := sa 94) (A := A) hx hb hnt hown (by decide) (by decide) (hts _ (List.mem_of_getElem? (i := 1) rfl)) (hts _ (List.mem_of_getElem? (i := 2) rfl)) (hEX.2.2.2.1 (94, "many is not 1 to 80") (by decide)) (vx_hat (fun w hw => hts w ((fun _ h => List.mem_cons_of_mem _ (List.mem_append_left _ (List.mem_append_right _ h))) w hw)) iae_bad (xW_use hEX.2.2.2.2 _)) iae_good hEX.2.1 hEX.2.2.1 hS (hl.1.trans hml.symm) dX4_fill_15 dX4_fill_18 dX4_fill_19 dX4_fill_21 dX4_fill_24 (fun x hx9 => (htab x hx9).elim) (Nat.le_of_ble_eq_true rfl) (Nat.le_of_ble_eq_true rfl) (Nat.le_of_ble_eq_true rfl) (Nat.le_of_ble_eq_true rfl) hlocks (fun t hvm hz hk => ⟨(), trivial, ⟨Or.inl ⟨rfl, (by unfold cdFil; rw [if_neg gv, if_pos ga])⟩, kept_P hP hk, hD⟩, thF hS hz hk⟩) hS.2.2 (Nat.le_of_ble_eq_true rfl) (Nat.le_of_ble_eq_true rfl)
  · replace c1 : ¬ q < (1 : Int32) := c1
    refine lv_iload_n hx hb dX4_fill_9 rfl (lv_at hl 2 rfl) ?_
    refine lv_bipush (v := 80) hx hb dX4_fill_10 (by decide) ?_
    refine lv_icmp_le (tgt := 25) hx hb dX4_fill_12 (by decide) (fun c2 => ?_) (fun c2 => ?_)
    · replace c2 : q ≤ (80 : Int32) := c2
      have ga : ¬ isI q 1 80 = 0 := isI_1 c1 (i_nlt c2)
      obtain ⟨j, hj1, hj8, hq9⟩ := isI_j (lo := 1) (hi := 80) (Nat.le_of_ble_eq_true rfl) (Nat.le_of_ble_eq_true rfl) ga
      have hcl := clN hq9 (Nat.lt_succ_of_le hj8) (Nat.le_of_ble_eq_true rfl)
      refine lv_aload_n hx hb dX4_fill_25 rfl (lv_at hl 0 rfl) ?_
      refine lv_iload_n hx hb dX4_fill_26 rfl (lv_at hl 2 rfl) ?_
      refine topI (y := nI j) (hq9) ?_
      refine kVxa (xVa (As := [.int (nI j)]) (rest := []) ⟨hx, hb, hml, hown, hts⟩ (c_X4_requireRoom l hnt D cI cL cM _ sa a x j (by omega) htc) (cwV 1 hts gX4_fill_X4_requireRoom rfl rfl rfl (by decide +kernel) ⟨(Nat.le_of_ble_eq_true rfl), (Nat.le_of_ble_eq_true rfl)⟩) hEX hP hD hS hA 0 rfl rfl rfl hl.1 rfl (Nat.le_of_ble_eq_true rfl) dX4_fill_27 ⟨(Nat.le_of_ble_eq_true rfl), (Nat.le_of_ble_eq_true rfl)⟩) hS (fun E9 ce9 q9 H locs hth9 hP hD hS h91 h92 h93 => ?_) (fun H locs gb hP hD hS => ?_)
      · exact vx_out (fun x hx9 => (htab x hx9).elim) hlocks h91 h92 h93 (fun t ht _ => ⟨(), trivial, ⟨Or.inr ⟨hth9.1, by unfold cdFil; rw [if_neg gv, if_neg ga, hcl, if_neg hth9.2]⟩, by rw [ht]; exact hP, hD⟩, hS.F ht⟩) hS.2.2 (Nat.le_of_ble_eq_true rfl) (Nat.le_of_ble_eq_true rfl)
      have hP : va_P D vwCl (mxW cI cL cM a x) H := hP
      have hD : va_D A (mxW cI cL cM a x) := hD
      have gb : q_c (x_tx x) + q.toNatClampNeg ≤ 80 := by rw [hcl]; exact gb
      refine lv_iconst (v := 0) hx hb dX4_fill_30 (by decide) ?_
      refine lv_istore_n (lv' := [(3, .int 0), (0, .ref (a 0)), (1, .int v), (2, .int q)]) hx hb dX4_fill_31 rfl hl (by decide) rfl (fun ls hl => ?_)
      have lpg : ∀ (n9 : Nat) (k9 : Nat) (hk9 : k9 ≤ j), j - k9 < n9 → ∀ (H : Heap) (locs : List Loc), va_P D vwCl (mxW cI cL cM a (xs_tx x (q_fl v k9 (x_tx x)))) H → va_D A (mxW cI cL cM a (xs_tx x (q_fl v k9 (x_tx x)))) → va_S A s.heap H locs → ∀ (ls : Array Slot), lv_has ls 4 [(3, .int (nI k9)), (2, .int q), (1, .int v), (0, .ref (a 0))] → W p l e (headSpec wsX4_fill ({ frames := 7, cells := 3, slots := 18, locals := 111 })).room s m (([.ref (a 0), .int v, .int q] : List Value).toArray) below meth c H locs 2 12 (vx_MQ below (va_Qi (fun x9 (_ : Unit) => x9 = (nI (q_c (q_fl v q.toNatClampNeg (x_tx x)))) ∧ cdFil x v q = 0) (fun _ t => hq D A (mxW cI cL cM a (xs_tx x (q_fl v q.toNatClampNeg (x_tx x)))) t) A) (vx_X (fun (_ : Unit) => True) (fun E _ t => (TH2 IAE ISE (cdFil x v q)) E ∧ hq D A (mxW cI cL cM a x) t) A) (([.ref (a 0), .int v, .int q] : List Value).toArray) s 3 18 A) (F0 m 32 ls []) := by
        intro n9
        induction n9 with
        | zero => intro k9 hk9 hm9; exact absurd hm9 (Nat.not_lt_zero _)
        | succ n9 ih_lpg =>
          intro k9 hk9 hm9 H locs hP hD hS ls hl
          refine lv_iload_n hx hb dX4_fill_32 rfl (lv_at hl 0 rfl) ?_
          refine lv_iload_n hx hb dX4_fill_33 rfl (lv_at hl 1 rfl) ?_
          refine topI (y := nI j) (hq9) ?_
          refine lv_icmp_ge (tgt := 51) hx hb dX4_fill_34 (by decide) (fun cj => ?_) (fun cj => ?_)
          · replace cj : (nI j) ≤ (nI k9) := cj
            have hkj : k9 = j := by have h8 := ge_N (by omega) (by omega) cj; omega
            refine lv_aload_n hx hb dX4_fill_51 rfl (lv_at hl 3 rfl) ?_
            refine va_get (D := D) (ci := 4) (v := .ref (a 1)) (C := RX4) (T := TX4) (N := 5) hx hb hts (fun _ h => List.mem_cons_of_mem _ (List.mem_append_left _ (List.mem_append_left _ (List.mem_append_left _ (List.mem_append_right _ h))))) hown hK hP 0 rfl rfl 0 (by decide) (hts _ (List.mem_of_getElem? (i := 3) rfl)) (fun _ h9 => h9) rfl dX4_fill_52 ?_
            refine va_get (D := D) (ci := 0) (v := .int (nI (q_c (q_fl v k9 (x_tx x))))) (C := RX0) (T := TX0) (N := 2) hx hb hts (fun _ h => List.mem_cons_of_mem _ (List.mem_append_left _ (List.mem_append_left _ (List.mem_append_right _ h)))) hown hK hP 1 rfl rfl 1 (by decide) (hts _ (List.mem_of_getElem? (i := 4) rfl)) (fun _ h9 => h9) rfl dX4_fill_55 ?_
            have hw9 : (mxW cI cL cM a (xs_tx x (q_fl v k9 (x_tx x)))) = (mxW cI cL cM a (xs_tx x (q_fl v q.toNatClampNeg (x_tx x)))) := by (rw [hcl, hkj])
            rw [hw9] at hP hD
            refine vx_ret ?_
            refine W.widen (k := 3) (n := 18) (Nat.le_of_ble_eq_true rfl) (Nat.le_of_ble_eq_true rfl) ?_
            exact W.iret (v := nI (q_c (q_fl v k9 (x_tx x)))) hx hb hr (fun t ht hW => ⟨⟨(nI (q_c (q_fl v k9 (x_tx x)))), (), rfl, ⟨by (rw [hcl, hkj]), (by unfold cdFil; rw [if_neg gv, if_neg ga, if_pos gb])⟩, by rw [ht]; exact hP, hD⟩, hS.F ht⟩) hS.2.2 dX4_fill_58
          · replace cj : ¬ (nI j) ≤ (nI k9) := cj
            have hkj : k9 < j := nge_N (by omega) (by omega) cj
            refine lv_aload_n hx hb dX4_fill_37 rfl (lv_at hl 3 rfl) ?_
            refine va_get (D := D) (ci := 4) (v := .ref (a 1)) (C := RX4) (T := TX4) (N := 5) hx hb hts (fun _ h => List.mem_cons_of_mem _ (List.mem_append_left _ (List.mem_append_left _ (List.mem_append_left _ (List.mem_append_right _ h))))) hown hK hP 0 rfl rfl 0 (by decide) (hts _ (List.mem_of_getElem? (i := 3) rfl)) (fun _ h9 => h9) rfl dX4_fill_38 ?_
            refine lv_iload_n hx hb dX4_fill_41 rfl (lv_at hl 2 rfl) ?_
            refine kV (rV (As := [.int v]) (rest := []) ⟨hx, hb, hml, hown, hts⟩ (c_X0_append l D cI cL cM _ (a 1) (a 2) 80 (q_fl v k9 (x_tx x)) v (q_fl_le _ _ htc _) (Nat.le_of_ble_eq_true rfl)) (cwV 1 hts gX4_fill_X0_append rfl rfl rfl (by decide +kernel) ⟨(Nat.le_of_ble_eq_true rfl), (Nat.le_of_ble_eq_true rfl)⟩) hE hP hD [1, 2] rfl rfl rfl rfl rfl hl.1 rfl (Nat.le_of_ble_eq_true rfl) dX4_fill_42 ⟨(Nat.le_of_ble_eq_true rfl), (Nat.le_of_ble_eq_true rfl)⟩) hP hD hS hA (is := [1, 2]) rfl rfl (fun H locs hP hD hS => ?_)
            rw [mxW_tx] at hP hD
            have hP : va_P D vwCl (mxW cI cL cM a (xs_tx x (q_app 80 (q_fl v k9 (x_tx x)) v))) H := hP
            have hD : va_D A (mxW cI cL cM a (xs_tx x (q_app 80 (q_fl v k9 (x_tx x)) v))) := hD
            refine lv_iinc (v := nI (k9 + 1)) (lv' := [(3, .int (nI (k9 + 1))), (2, .int q), (1, .int v), (0, .ref (a 0))]) hx hb dX4_fill_45 hl (k := 0) rfl (nI_1 _) (by decide) rfl (fun ls hl => ?_)
            refine lv_goto (tgt := 32) hx hb dX4_fill_48 (by decide) ?_
            exact ih_lpg (k9 + 1) (by omega) (by omega) _ _ hP hD hS ls (lv_sub hl [0, 1, 2, 3] rfl)
      have hP : va_P D vwCl (mxW cI cL cM a (xs_tx x (q_fl v 0 (x_tx x)))) H := hP
      have hD : va_D A (mxW cI cL cM a (xs_tx x (q_fl v 0 (x_tx x)))) := hD
      exact lpg _ 0 (Nat.zero_le _) (Nat.lt_succ_self _) _ _ hP hD hS ls (lv_sub hl [0, 3, 2, 1] rfl)
    · replace c2 : ¬ q ≤ (80 : Int32) := c2
      have ga : isI q 1 80 = 0 := isI_b (i_lt c2)
      exact vx_throwS (text := "many is not 1 to 80") (names := xNames) (sa := sa 94) (A := A) hx hb hnt hown (by decide) (by decide) (hts _ (List.mem_of_getElem? (i := 1) rfl)) (hts _ (List.mem_of_getElem? (i := 2) rfl)) (hEX.2.2.2.1 (94, "many is not 1 to 80") (by decide)) (vx_hat (fun w hw => hts w ((fun _ h => List.mem_cons_of_mem _ (List.mem_append_left _ (List.mem_append_right _ h))) w hw)) iae_bad (xW_use hEX.2.2.2.2 _)) iae_good hEX.2.1 hEX.2.2.1 hS (hl.1.trans hml.symm) dX4_fill_15 dX4_fill_18 dX4_fill_19 dX4_fill_21 dX4_fill_24 (fun x hx9 => (htab x hx9).elim) (Nat.le_of_ble_eq_true rfl) (Nat.le_of_ble_eq_true rfl) (Nat.le_of_ble_eq_true rfl) (Nat.le_of_ble_eq_true rfl) hlocks (fun t hvm hz hk => ⟨(), trivial, ⟨Or.inl ⟨rfl, (by unfold cdFil; rw [if_neg gv, if_pos ga])⟩, kept_P hP hk, hD⟩, thF hS hz hk⟩) hS.2.2 (Nat.le_of_ble_eq_true rfl) (Nat.le_of_ble_eq_true rfl)
