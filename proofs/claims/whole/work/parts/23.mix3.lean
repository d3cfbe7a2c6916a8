/-! ===== BitMixer encodes ===== -/
theorem mxW_prC (cI cL cM : ClassId) (a : Nat → Nat) (x : Mx) : [7, 8, 9, 10, 11, 12, 13, 14, 15, 16, 17, 18, 19, 20, 21, 22, 23, 24, 25, 26, 27, 28, 29, 30, 31, 32, 33].map (fun i => (mxW cI cL cM a x)[i]?) = (prW cI cL cM a (x_pr x)).map some := rfl
theorem prW_fst (cI cL cM : ClassId) (a : Nat → Nat) (k k' : Pr) : (prW cI cL cM a k).map Prod.fst = (prW cI cL cM a k').map Prod.fst := rfl
theorem segnd : va_nd [7, 8, 9, 10, 11, 12, 13, 14, 15, 16, 17, 18, 19, 20, 21, 22, 23, 24, 25, 26, 27, 28, 29, 30, 31, 32, 33] = true := rfl
/-- an invariant of the class's predictor: what the walks need of it -/
def JInv (J : Pr → Prop) : Prop := (∀ k, J k → k_n k ≤ 6 ∧ k_nd k < 256 ∧ vp_in (k_ph k) 8 ∧ ∀ j, j < k_n k → vp_in (o_pl (k_mo k j)) 512) ∧ ∀ k z, J k → J (k_ln z (k_mx k) k)
def zbx (w : Int32) (k : Nat) : Int32 := if ((w.toUInt32 >>> ((nI k).toUInt32 &&& Int32.toUInt32 31)).toInt32 &&& 1) = 1 then 1 else 0
def x_ps (y : Mx) : Mx := xs_en (xs_iv y (v_shf (x_iv y))) (q_app 2564 (x_en y) (tpb (v_lo (x_iv y))))
def x_wh : Nat → Mx → Mx
  | 0, y => y
  | n + 1, y => if v_set (x_iv y) = 0 then y else x_wh n (x_ps y)
theorem x_wh_stop {y : Mx} (h : v_set (x_iv y) = 0) (n : Nat) : x_wh n y = y := by cases n with
  | zero => rfl
  | succ n => exact if_pos h
theorem x_wh_go {y : Mx} (h : ¬ v_set (x_iv y) = 0) {n : Nat} (hn : 1 ≤ n) : x_wh (n - 1) (x_ps y) = x_wh n y := by
  obtain ⟨j, rfl⟩ : ∃ j, n = j + 1 := ⟨n - 1, by omega⟩
  exact (if_neg h).symm
def x_prt (z : Int32) (y : Mx) : Mx := xs_iv y (v_nar (x_iv y) z (v_mid (x_iv y) (k_mx (x_pr y))))
def x_bit (z : Int32) (y : Mx) : Mx := xs_pr (x_wh 4 (x_prt z y)) (k_ln z (k_mx (x_pr y)) (x_pr (x_wh 4 (x_prt z y))))
def x_byt (w : Int32) : Nat → Mx → Mx
  | 0, y => y
  | k + 1, y => x_byt w k (x_bit (zbx w k) y)
theorem x_byt_s {w : Int32} {k : Nat} {v v' : Mx} (hk : 1 ≤ k) (h : x_bit (zbx w (k - 1)) v = v') : x_byt w (k - 1) v' = x_byt w k v := by
  obtain ⟨j, rfl⟩ : ∃ j, k = j + 1 := ⟨k - 1, by omega⟩
  rw [← h]
  rfl
theorem q_app_le {lim : Nat} {r : Row} (v : Int32) (h : q_c r ≤ lim) : q_c (q_app lim r v) ≤ lim := by
  unfold q_app
  split
  · rw [q_c_f, q_c_c]; omega
  · exact h
theorem x_ps_pr (y : Mx) : x_pr (x_ps y) = x_pr y := by unfold x_ps; rw [x_pr_en, x_pr_iv]
theorem x_ps_tx (y : Mx) : x_tx (x_ps y) = x_tx y := by unfold x_ps; rw [x_tx_en, x_tx_iv]
theorem x_ps_de (y : Mx) : x_de (x_ps y) = x_de y := by unfold x_ps; rw [x_de_en, x_de_iv]
theorem x_ps_ec {y : Mx} (h : q_c (x_en y) ≤ 2564) : q_c (x_en (x_ps y)) ≤ 2564 := by unfold x_ps; rw [x_en_en]; exact q_app_le _ h
theorem x_wh_pr : ∀ (n : Nat) (y : Mx), x_pr (x_wh n y) = x_pr y
  | 0, y => rfl
  | n + 1, y => by
    show x_pr (if v_set (x_iv y) = 0 then y else x_wh n (x_ps y)) = x_pr y
    split
    · rfl
    · rw [x_wh_pr n, x_ps_pr]
theorem x_wh_tx : ∀ (n : Nat) (y : Mx), x_tx (x_wh n y) = x_tx y
  | 0, y => rfl
  | n + 1, y => by
    show x_tx (if v_set (x_iv y) = 0 then y else x_wh n (x_ps y)) = x_tx y
    split
    · rfl
    · rw [x_wh_tx n, x_ps_tx]
theorem x_wh_ec : ∀ (n : Nat) (y : Mx), q_c (x_en y) ≤ 2564 → q_c (x_en (x_wh n y)) ≤ 2564
  | 0, y, h => h
  | n + 1, y, h => by
    show q_c (x_en (if v_set (x_iv y) = 0 then y else x_wh n (x_ps y))) ≤ 2564
    split
    · exact h
    · exact x_wh_ec n _ (x_ps_ec h)
theorem x_bit_pr (z : Int32) (y : Mx) : x_pr (x_bit z y) = k_ln z (k_mx (x_pr y)) (x_pr y) := by
  unfold x_bit
  rw [x_pr_pr, x_wh_pr]
  unfold x_prt
  rw [x_pr_iv]
theorem x_bit_tx (z : Int32) (y : Mx) : x_tx (x_bit z y) = x_tx y := by
  unfold x_bit
  rw [x_tx_pr, x_wh_tx]
  unfold x_prt
  rw [x_tx_iv]
theorem x_bit_ec {z : Int32} {y : Mx} (h : q_c (x_en y) ≤ 2564) : q_c (x_en (x_bit z y)) ≤ 2564 := by
  unfold x_bit
  rw [x_en_pr]
  exact x_wh_ec 4 _ (by unfold x_prt; rw [x_en_iv]; exact h)
theorem x_byt_J {J : Pr → Prop} (hJ : JInv J) (w : Int32) : ∀ (k : Nat) (y : Mx), J (x_pr y) → J (x_pr (x_byt w k y))
  | 0, y, h => h
  | k + 1, y, h => x_byt_J hJ w k _ (by rw [x_bit_pr]; exact hJ.2 _ _ h)
theorem x_byt_tx (w : Int32) : ∀ (k : Nat) (y : Mx), x_tx (x_byt w k y) = x_tx y
  | 0, y => rfl
  | k + 1, y => (x_byt_tx w k _).trans (x_bit_tx _ _)
theorem x_byt_ec (w : Int32) : ∀ (k : Nat) (y : Mx), q_c (x_en y) ≤ 2564 → q_c (x_en (x_byt w k y)) ≤ 2564
  | 0, y, h => h
  | k + 1, y, h => x_byt_ec w k _ (x_bit_ec h)
def x_enl (e : Mx) : Nat → Mx
  | 0 => e
  | k + 1 => x_byt (q_at (x_tx e) (nI k)) 8 (x_enl e k)
def x_e1 (x : Mx) : Mx := xs_en (xs_iv (xs_pr x (k_rs (x_pr x))) (v_opn (x_iv x))) (qs_c (x_en x) 0)
def x_enc (x : Mx) : Mx := x_ps (x_ps (x_ps (x_ps (x_enl (x_e1 x) (q_c (x_tx x))))))
theorem x_e1_tx (x : Mx) : x_tx (x_e1 x) = x_tx x := by unfold x_e1; rw [x_tx_en, x_tx_iv, x_tx_pr]
theorem x_e1_pr (x : Mx) : x_pr (x_e1 x) = k_rs (x_pr x) := by unfold x_e1; rw [x_pr_en, x_pr_iv, x_pr_pr]
theorem x_e1_en (x : Mx) : q_c (x_en (x_e1 x)) ≤ 2564 := by unfold x_e1; rw [x_en_en, q_c_c]; exact Nat.zero_le _

set_option maxHeartbeats 4000000 in
set_option maxRecDepth 100000 in
theorem c_X4_encodeByte (l : Launch) (D : va_G) (cI cL cM : ClassId) (A : Nat → Prop) (a : Nat → Nat) (x : Mx) (w : Int32) (J : Pr → Prop) (hJ : JInv J) (hJ0 : J (x_pr x)) (hec : q_c (x_en x) ≤ 2564) : mV l yX4_encodeByte wsX4_encodeByte ({ frames := 5, cells := 0, slots := 0, locals := 110 }) D (tB cI cL cM) A [.ref (a 0), .int w] (mxW cI cL cM a x) (mxW cI cL cM a (x_byt w 8 x)) := by
  refine Met.ofW (cc := cX4_encodeByte) (maxL := 6) (ret := none) (by decide) rfl ?_
  intro p e s m args below meth c s₁ B hml hv
  obtain ⟨rfl, hP, hE, hD, hA⟩ := hv
  have hK := hE.1
  have hx := B.exec
  have hb := B.bytes
  have hr := B.returns
  have hts := atoms_spec (ws := wsX4_encodeByte) B.pre
  have hown : s.vm.findClass RX4 = some m.cls := findClass_of_methodNamed B.named
  have hlocks := B.notSynchronized
  have hS : va_S A s.heap s.heap [] := va_S.rf
  have hl := lv_entry ([.ref (a 0), .int w]) (n := 6) (Nat.le_of_ble_eq_true rfl)
  rw [lg_entry_eq]
  generalize (lg_sl ([.ref (a 0), .int w]) ++ List.replicate (6 - (lg_sl ([.ref (a 0), .int w])).length) Slot.unset).toArray = ls at hl ⊢
  have hl : lv_has ls 6 [(0, .ref (a 0)), (1, .int w)] := hl
  refine lv_bipush (v := 7) hx hb dX4_encodeByte_0 (by decide) ?_
  refine lv_istore_n (lv' := [(2, .int 7), (0, .ref (a 0)), (1, .int w)]) hx hb dX4_encodeByte_2 rfl hl (by decide) rfl (fun ls hl => ?_)
  have lpb : ∀ (n9 : Nat) (t9 : Nat) (y : Mx) (ht9 : t9 ≤ 8) (hy : x_byt w t9 y = x_byt w 8 x) (hyJ : J (x_pr y)) (hyc : q_c (x_en y) ≤ 2564), t9 < n9 → ∀ (H : Heap) (locs : List Loc), va_P D vwCl (mxW cI cL cM a y) H → va_D A (mxW cI cL cM a y) → va_S A s.heap H locs → ∀ (ls : Array Slot), lv_has ls 6 [(2, .int (nI t9 - 1)), (1, .int w), (0, .ref (a 0))] → W p l e (headSpec wsX4_encodeByte ({ frames := 5, cells := 0, slots := 0, locals := 110 })).room s m (([.ref (a 0), .int w] : List Value).toArray) below meth c H locs 0 0 (MQ below (va_Qv (fun (_ : Unit) => True) (fun _ t => hq D A (mxW cI cL cM a (x_byt w 8 x)) t) A) (([.ref (a 0), .int w] : List Value).toArray) s 0 0 A) (F0 m 3 ls []) := by
    intro n9
    induction n9 with
    | zero => intro t9 y ht9 hy hyJ hyc hm9; exact absurd hm9 (Nat.not_lt_zero _)
    | succ n9 ih_lpb =>
      intro t9 y ht9 hy hyJ hyc hm9 H locs hP hD hS ls hl
      refine lv_iload_n hx hb dX4_encodeByte_3 rfl (lv_at hl 0 rfl) ?_
      refine lv_if_lt (tgt := 103) hx hb dX4_encodeByte_4 (by decide) (fun ct => ?_) (fun ct => ?_)
      · replace ct : (nI t9 - 1) < (0 : Int32) := ct
        have ht0 := m1neg (by omega) ct
        have hw9 : (mxW cI cL cM a y) = (mxW cI cL cM a (x_byt w 8 x)) := by (rw [ht0] at hy; exact congrArg (mxW cI cL cM a) hy)
        rw [hw9] at hP hD
        exact W.vret hx hb hr (fun t ht hW => ⟨⟨(), rfl, trivial, by rw [ht]; exact hP, hD⟩, hS.F ht⟩) hS.2.2 dX4_encodeByte_103
      · replace ct : ¬ (nI t9 - 1) < (0 : Int32) := ct
        have ht1 := m1pos (by omega) ct
        obtain ⟨hn6, hnd, hph, hpl⟩ := hJ.1 _ hyJ
        refine lv_iload_n hx hb dX4_encodeByte_7 rfl (lv_at hl 1 rfl) ?_
        refine lv_iload_n hx hb dX4_encodeByte_8 rfl (lv_at hl 0 rfl) ?_
        refine topI (y := nI (t9 - 1)) (m1eq ht1) ?_
        refine lv_iushr hx hb dX4_encodeByte_9 rfl ?_
        refine lv_iconst (v := 1) hx hb dX4_encodeByte_10 (by decide) ?_
        refine lv_iand hx hb dX4_encodeByte_11 ?_
        refine lv_iconst (v := 1) hx hb dX4_encodeByte_12 (by decide) ?_
        refine lv_icmp_ne (tgt := 20) hx hb dX4_encodeByte_13 (by decide) (fun cz => ?_) (fun cz => ?_)
        · replace cz : ¬ (((w.toUInt32 >>> ((nI (t9 - 1)).toUInt32 &&& Int32.toUInt32 31)).toInt32) &&& 1) = (1 : Int32) := cz
          refine lv_iconst (v := 0) hx hb dX4_encodeByte_20 (by decide) ?_
          refine topI (y := (zbx w (t9 - 1))) (by unfold zbx; rw [if_neg cz]) ?_
          refine lv_istore_n (lv' := [(3, .int (zbx w (t9 - 1))), (2, .int (nI t9 - 1)), (1, .int w), (0, .ref (a 0))]) hx hb dX4_encodeByte_21 rfl hl (by decide) rfl (fun ls hl => ?_)
          refine lv_aload_n hx hb dX4_encodeByte_22 rfl (lv_at hl 3 rfl) ?_
          refine va_get (D := D) (ci := 4) (v := .ref (a 7)) (C := RX4) (T := TX4) (N := 5) hx hb hts (fun _ h => List.mem_cons_of_mem _ (List.mem_append_left _ (List.mem_append_left _ (List.mem_append_left _ (List.mem_append_left _ (List.mem_append_right _ h)))))) hown hK hP 0 rfl rfl 3 (by decide) (hts _ (List.mem_of_getElem? (i := 1) rfl)) (fun _ h9 => h9) rfl dX4_encodeByte_23 ?_
          refine kI (rV (As := []) (rest := []) ⟨hx, hb, hml, hown, hts⟩ (c_X3_mixture l D cI cL cM _ a (x_pr y)  hn6 hph hpl) (cwV 0 hts gX4_encodeByte_X3_mixture rfl rfl rfl (by decide +kernel) ⟨(Nat.le_of_ble_eq_true rfl), (Nat.le_of_ble_eq_true rfl)⟩) hE hP hD [7, 8, 9, 10, 11, 12, 13, 14, 15, 16, 17, 18, 19, 20, 21, 22, 23, 24, 25, 26, 27, 28, 29, 30, 31, 32, 33] segnd (mxW_prC cI cL cM a _) rfl rfl rfl hl.1 rfl (Nat.le_of_ble_eq_true rfl) dX4_encodeByte_26 ⟨(Nat.le_of_ble_eq_true rfl), (Nat.le_of_ble_eq_true rfl)⟩) hP hD hS hA (is := [7, 8, 9, 10, 11, 12, 13, 14, 15, 16, 17, 18, 19, 20, 21, 22, 23, 24, 25, 26, 27, 28, 29, 30, 31, 32, 33]) (mxW_prC cI cL cM a _) (prW_fst cI cL cM a _ _) (fun H locs hP hD hS => ?_)
          rw [mxW_pr, xs_pr_self] at hP hD
          have hP : va_P D vwCl (mxW cI cL cM a y) H := hP
          have hD : va_D A (mxW cI cL cM a y) := hD
          refine lv_topi (fun mx5 hmx5 => ?_)
          refine lv_istore (lv' := [(4, .int mx5), (3, .int (zbx w (t9 - 1))), (2, .int (nI t9 - 1)), (1, .int w), (0, .ref (a 0))]) hx hb dX4_encodeByte_29 hl (by decide) rfl (fun ls hl => ?_)
          refine lv_aload_n hx hb dX4_encodeByte_31 rfl (lv_at hl 4 rfl) ?_
          refine va_get (D := D) (ci := 4) (v := .ref (a 10)) (C := RX4) (T := TX4) (N := 5) hx hb hts (fun _ h => List.mem_cons_of_mem _ (List.mem_append_left _ (List.mem_append_left _ (List.mem_append_left _ (List.mem_append_left _ (List.mem_append_right _ h)))))) hown hK hP 0 rfl rfl 4 (by decide) (hts _ (List.mem_of_getElem? (i := 2) rfl)) (fun _ h9 => h9) rfl dX4_encodeByte_32 ?_
          refine lv_iload_n hx hb dX4_encodeByte_35 rfl (lv_at hl 1 rfl) ?_
          refine lv_aload_n hx hb dX4_encodeByte_36 rfl (lv_at hl 4 rfl) ?_
          refine va_get (D := D) (ci := 4) (v := .ref (a 10)) (C := RX4) (T := TX4) (N := 5) hx hb hts (fun _ h => List.mem_cons_of_mem _ (List.mem_append_left _ (List.mem_append_left _ (List.mem_append_left _ (List.mem_append_left _ (List.mem_append_right _ h)))))) hown hK hP 0 rfl rfl 4 (by decide) (hts _ (List.mem_of_getElem? (i := 2) rfl)) (fun _ h9 => h9) rfl dX4_encodeByte_37 ?_
          refine lv_iload hx hb dX4_encodeByte_40 (lv_at hl 0 rfl) ?_
          refine kL (rV (As := [.int mx5]) (rest := [.int (zbx w (t9 - 1)), .ref (a 10)]) ⟨hx, hb, hml, hown, hts⟩ (c_X1_middle l D cI cL cM _ (a 10) (x_iv y) mx5 ) (cwV 1 hts gX4_encodeByte_X1_middle rfl rfl rfl (by decide +kernel) ⟨(Nat.le_of_ble_eq_true rfl), (Nat.le_of_ble_eq_true rfl)⟩) hE hP hD [34] rfl rfl rfl rfl rfl hl.1 rfl (Nat.le_of_ble_eq_true rfl) dX4_encodeByte_42 ⟨(Nat.le_of_ble_eq_true rfl), (Nat.le_of_ble_eq_true rfl)⟩) hP hD hS hA (is := [34]) rfl rfl (fun H locs hP hD hS => ?_)
          rw [mxW_iv, xs_iv_self] at hP hD
          have hP : va_P D vwCl (mxW cI cL cM a y) H := hP
          have hD : va_D A (mxW cI cL cM a y) := hD
          refine lv_topl (fun md5 hmd5 => ?_)
          refine kV (rV (As := [.int (zbx w (t9 - 1)), .long md5]) (rest := []) ⟨hx, hb, hml, hown, hts⟩ (c_X1_narrow l D cI cL cM _ (a 10) (x_iv y) (zbx w (t9 - 1)) md5 ) (cwV 2 hts gX4_encodeByte_X1_narrow rfl rfl rfl (by decide +kernel) ⟨(Nat.le_of_ble_eq_true rfl), (Nat.le_of_ble_eq_true rfl)⟩) hE hP hD [34] rfl rfl rfl rfl rfl hl.1 rfl (Nat.le_of_ble_eq_true rfl) dX4_encodeByte_45 ⟨(Nat.le_of_ble_eq_true rfl), (Nat.le_of_ble_eq_true rfl)⟩) hP hD hS hA (is := [34]) rfl rfl (fun H locs hP hD hS => ?_)
          rw [mxW_iv] at hP hD
          have hP : va_P D vwCl (mxW cI cL cM a (xs_iv y (v_nar (x_iv y) (zbx w (t9 - 1)) md5))) H := hP
          have hD : va_D A (mxW cI cL cM a (xs_iv y (v_nar (x_iv y) (zbx w (t9 - 1)) md5))) := hD
          obtain ⟨q0, hq0⟩ : ∃ y9 : Mx, y9 = (xs_iv y (v_nar (x_iv y) (zbx w (t9 - 1)) md5)) := ⟨_, rfl⟩
          rw [← hq0] at hP hD
          have hqp : x_pr q0 = x_pr y := by rw [hq0, x_pr_iv]
          have hqc : q_c (x_en q0) ≤ 2564 := by rw [hq0, x_en_iv]; exact hyc
          refine lv_iconst (v := 0) hx hb dX4_encodeByte_48 (by decide) ?_
          refine lv_istore (lv' := [(5, .int 0), (4, .int mx5), (3, .int (zbx w (t9 - 1))), (2, .int (nI t9 - 1)), (1, .int w), (0, .ref (a 0))]) hx hb dX4_encodeByte_49 hl (by decide) rfl (fun ls hl => ?_)
          have lpw : ∀ (n9 : Nat) (f9 : Nat) (v : Mx) (hf9 : f9 ≤ 4) (hvw : x_wh f9 v = x_wh 4 q0) (hvp : x_pr v = x_pr q0) (hvc : q_c (x_en v) ≤ 2564), f9 < n9 → ∀ (H : Heap) (locs : List Loc), va_P D vwCl (mxW cI cL cM a v) H → va_D A (mxW cI cL cM a v) → va_S A s.heap H locs → ∀ (ls : Array Slot), lv_has ls 6 [(5, .int (nI (4 - f9))), (4, .int mx5), (3, .int (zbx w (t9 - 1))), (2, .int (nI t9 - 1)), (1, .int w), (0, .ref (a 0))] → W p l e (headSpec wsX4_encodeByte ({ frames := 5, cells := 0, slots := 0, locals := 110 })).room s m (([.ref (a 0), .int w] : List Value).toArray) below meth c H locs 0 0 (MQ below (va_Qv (fun (_ : Unit) => True) (fun _ t => hq D A (mxW cI cL cM a (x_byt w 8 x)) t) A) (([.ref (a 0), .int w] : List Value).toArray) s 0 0 A) (F0 m 51 ls []) := by
            intro n9
            induction n9 with
            | zero => intro f9 v hf9 hvw hvp hvc hm9; exact absurd hm9 (Nat.not_lt_zero _)
            | succ n9 ih_lpw =>
              intro f9 v hf9 hvw hvp hvc hm9 H locs hP hD hS ls hl
              refine lv_iload hx hb dX4_encodeByte_51 (lv_at hl 0 rfl) ?_
              refine lv_iconst (v := 4) hx hb dX4_encodeByte_53 (by decide) ?_
              refine lv_icmp_ge (tgt := 87) hx hb dX4_encodeByte_54 (by decide) (fun c4 => ?_) (fun c4 => ?_)
              · replace c4 : (4 : Int32) ≤ (nI (4 - f9)) := c4
                have hf0 : f9 = 0 := by have h8 := ge_N (a := 4) (by omega) (by omega) c4; omega
                have hq0v : x_wh 4 q0 = v := by rw [← hvw, hf0]; rfl
                have hpy : x_pr v = x_pr y := hvp.trans hqp
                refine lv_aload_n hx hb dX4_encodeByte_87 rfl (lv_at hl 5 rfl) ?_
                refine va_get (D := D) (ci := 4) (v := .ref (a 7)) (C := RX4) (T := TX4) (N := 5) hx hb hts (fun _ h => List.mem_cons_of_mem _ (List.mem_append_left _ (List.mem_append_left _ (List.mem_append_left _ (List.mem_append_left _ (List.mem_append_right _ h)))))) hown hK hP 0 rfl rfl 3 (by decide) (hts _ (List.mem_of_getElem? (i := 1) rfl)) (fun _ h9 => h9) rfl dX4_encodeByte_88 ?_
                refine lv_iload_n hx hb dX4_encodeByte_91 rfl (lv_at hl 2 rfl) ?_
                refine lv_iload hx hb dX4_encodeByte_92 (lv_at hl 1 rfl) ?_
                refine kV (rV (As := [.int (zbx w (t9 - 1)), .int mx5]) (rest := []) ⟨hx, hb, hml, hown, hts⟩ (c_X3_learn l D cI cL cM _ a (x_pr v) (zbx w (t9 - 1)) mx5 (by rw [hpy]; exact hn6) (by rw [hpy]; exact hnd) (by rw [hpy]; exact hph) (by rw [hpy]; exact hpl)) (cwV 2 hts gX4_encodeByte_X3_learn rfl rfl rfl (by decide +kernel) ⟨(Nat.le_of_ble_eq_true rfl), (Nat.le_of_ble_eq_true rfl)⟩) hE hP hD [7, 8, 9, 10, 11, 12, 13, 14, 15, 16, 17, 18, 19, 20, 21, 22, 23, 24, 25, 26, 27, 28, 29, 30, 31, 32, 33] segnd (mxW_prC cI cL cM a _) rfl rfl rfl hl.1 rfl (Nat.le_of_ble_eq_true rfl) dX4_encodeByte_94 ⟨(Nat.le_of_ble_eq_true rfl), (Nat.le_of_ble_eq_true rfl)⟩) hP hD hS hA (is := [7, 8, 9, 10, 11, 12, 13, 14, 15, 16, 17, 18, 19, 20, 21, 22, 23, 24, 25, 26, 27, 28, 29, 30, 31, 32, 33]) (mxW_prC cI cL cM a _) (prW_fst cI cL cM a _ _) (fun H locs hP hD hS => ?_)
                rw [mxW_pr] at hP hD
                have hP : va_P D vwCl (mxW cI cL cM a (xs_pr v (k_ln (zbx w (t9 - 1)) mx5 (x_pr v)))) H := hP
                have hD : va_D A (mxW cI cL cM a (xs_pr v (k_ln (zbx w (t9 - 1)) mx5 (x_pr v)))) := hD
                refine lv_iinc (v := nI (t9 - 1) - 1) (lv' := [(2, .int (nI (t9 - 1) - 1)), (5, .int (nI (4 - f9))), (4, .int mx5), (3, .int (zbx w (t9 - 1))), (1, .int w), (0, .ref (a 0))]) hx hb dX4_encodeByte_97 hl (k := 3) rfl (m1dec ht1) (by decide) rfl (fun ls hl => ?_)
                refine lv_goto (tgt := 3) hx hb dX4_encodeByte_100 (by decide) ?_
                exact ih_lpb (t9 - 1) (xs_pr v (k_ln (zbx w (t9 - 1)) mx5 (x_pr v))) (by omega) ((x_byt_s ht1 (by unfold x_bit x_prt; rw [← hmx5, ← hmd5, ← hq0, hq0v])).trans hy) (by rw [x_pr_pr, hpy, hmx5]; exact hJ.2 _ _ hyJ) (by rw [x_en_pr]; exact hvc) (by omega) _ _ hP hD hS ls (lv_sub hl [0, 4, 5] rfl)
              · replace c4 : ¬ (4 : Int32) ≤ (nI (4 - f9)) := c4
                have hf1 : 1 ≤ f9 := by have h8 := nge_N (a := 4) (by omega) (by omega) c4; omega
                refine lv_aload_n hx hb dX4_encodeByte_57 rfl (lv_at hl 5 rfl) ?_
                refine va_get (D := D) (ci := 4) (v := .ref (a 10)) (C := RX4) (T := TX4) (N := 5) hx hb hts (fun _ h => List.mem_cons_of_mem _ (List.mem_append_left _ (List.mem_append_left _ (List.mem_append_left _ (List.mem_append_left _ (List.mem_append_right _ h)))))) hown hK hP 0 rfl rfl 4 (by decide) (hts _ (List.mem_of_getElem? (i := 2) rfl)) (fun _ h9 => h9) rfl dX4_encodeByte_58 ?_
                refine kI (rV (As := []) (rest := []) ⟨hx, hb, hml, hown, hts⟩ (c_X1_isSettled l D cI cL cM _ (a 10) (x_iv v)  ) (cwV 0 hts gX4_encodeByte_X1_isSettled rfl rfl rfl (by decide +kernel) ⟨(Nat.le_of_ble_eq_true rfl), (Nat.le_of_ble_eq_true rfl)⟩) hE hP hD [34] rfl rfl rfl rfl rfl hl.1 rfl (Nat.le_of_ble_eq_true rfl) dX4_encodeByte_61 ⟨(Nat.le_of_ble_eq_true rfl), (Nat.le_of_ble_eq_true rfl)⟩) hP hD hS hA (is := [34]) rfl rfl (fun H locs hP hD hS => ?_)
                rw [mxW_iv, xs_iv_self] at hP hD
                have hP : va_P D vwCl (mxW cI cL cM a v) H := hP
                have hD : va_D A (mxW cI cL cM a v) := hD
                refine lv_if_eq (tgt := 87) hx hb dX4_encodeByte_64 (by decide) (fun cw => ?_) (fun cw => ?_)
                · replace cw : (v_set (x_iv v)) = (0 : Int32) := cw
                  have hq0v : x_wh 4 q0 = v := by rw [← hvw]; exact x_wh_stop cw f9
                  have hpy : x_pr v = x_pr y := hvp.trans hqp
                  refine lv_aload_n hx hb dX4_encodeByte_87 rfl (lv_at hl 5 rfl) ?_
                  refine va_get (D := D) (ci := 4) (v := .ref (a 7)) (C := RX4) (T := TX4) (N := 5) hx hb hts (fun _ h => List.mem_cons_of_mem _ (List.mem_append_left _ (List.mem_append_left _ (List.mem_append_left _ (List.mem_append_left _ (List.mem_append_right _ h)))))) hown hK hP 0 rfl rfl 3 (by decide) (hts _ (List.mem_of_getElem? (i := 1) rfl)) (fun _ h9 => h9) rfl dX4_encodeByte_88 ?_
                  refine lv_iload_n hx hb dX4_encodeByte_91 rfl (lv_at hl 2 rfl) ?_
                  refine lv_iload hx hb dX4_encodeByte_92 (lv_at hl 1 rfl) ?_
                  refine kV (rV (As := [.int (zbx w (t9 - 1)), .int mx5]) (rest := []) ⟨hx, hb, hml, hown, hts⟩ (c_X3_learn l D cI cL cM _ a (x_pr v) (zbx w (t9 - 1)) mx5 (by rw [hpy]; exact hn6) (by rw [hpy]; exact hnd) (by rw [hpy]; exact hph) (by rw [hpy]; exact hpl)) (cwV 2 hts gX4_encodeByte_X3_learn rfl rfl rfl (by decide +kernel) ⟨(Nat.le_of_ble_eq_true rfl), (Nat.le_of_ble_eq_true rfl)⟩) hE hP hD [7, 8, 9, 10, 11, 12, 13, 14, 15, 16, 17, 18, 19, 20, 21, 22, 23, 24, 25, 26, 27, 28, 29, 30, 31, 32, 33] segnd (mxW_prC cI cL cM a _) rfl rfl rfl hl.1 rfl (Nat.le_of_ble_eq_true rfl) dX4_encodeByte_94 ⟨(Nat.le_of_ble_eq_true rfl), (Nat.le_of_ble_eq_true rfl)⟩) hP hD hS hA (is := [7, 8, 9, 10, 11, 12, 13, 14, 15, 16, 17, 18, 19, 20, 21, 22, 23, 24, 25, 26, 27, 28, 29, 30, 31, 32, 33]) (mxW_prC cI cL cM a _) (prW_fst cI cL cM a _ _) (fun H locs hP hD hS => ?_)
                  rw [mxW_pr] at hP hD
                  have hP : va_P D vwCl (mxW cI cL cM a (xs_pr v (k_ln (zbx w (t9 - 1)) mx5 (x_pr v)))) H := hP
                  have hD : va_D A (mxW cI cL cM a (xs_pr v (k_ln (zbx w (t9 - 1)) mx5 (x_pr v)))) := hD
                  refine lv_iinc (v := nI (t9 - 1) - 1) (lv' := [(2, .int (nI (t9 - 1) - 1)), (5, .int (nI (4 - f9))), (4, .int mx5), (3, .int (zbx w (t9 - 1))), (1, .int w), (0, .ref (a 0))]) hx hb dX4_encodeByte_97 hl (k := 3) rfl (m1dec ht1) (by decide) rfl (fun ls hl => ?_)
                  refine lv_goto (tgt := 3) hx hb dX4_encodeByte_100 (by decide) ?_
                  exact ih_lpb (t9 - 1) (xs_pr v (k_ln (zbx w (t9 - 1)) mx5 (x_pr v))) (by omega) ((x_byt_s ht1 (by unfold x_bit x_prt; rw [← hmx5, ← hmd5, ← hq0, hq0v])).trans hy) (by rw [x_pr_pr, hpy, hmx5]; exact hJ.2 _ _ hyJ) (by rw [x_en_pr]; exact hvc) (by omega) _ _ hP hD hS ls (lv_sub hl [0, 4, 5] rfl)
                · replace cw : ¬ (v_set (x_iv v)) = (0 : Int32) := cw
                  refine lv_aload_n hx hb dX4_encodeByte_67 rfl (lv_at hl 5 rfl) ?_
                  refine va_get (D := D) (ci := 4) (v := .ref (a 3)) (C := RX4) (T := TX4) (N := 5) hx hb hts (fun _ h => List.mem_cons_of_mem _ (List.mem_append_left _ (List.mem_append_left _ (List.mem_append_left _ (List.mem_append_left _ (List.mem_append_right _ h)))))) hown hK hP 0 rfl rfl 1 (by decide) (hts _ (List.mem_of_getElem? (i := 3) rfl)) (fun _ h9 => h9) rfl dX4_encodeByte_68 ?_
                  refine lv_aload_n hx hb dX4_encodeByte_71 rfl (lv_at hl 5 rfl) ?_
                  refine va_get (D := D) (ci := 4) (v := .ref (a 10)) (C := RX4) (T := TX4) (N := 5) hx hb hts (fun _ h => List.mem_cons_of_mem _ (List.mem_append_left _ (List.mem_append_left _ (List.mem_append_left _ (List.mem_append_left _ (List.mem_append_right _ h)))))) hown hK hP 0 rfl rfl 4 (by decide) (hts _ (List.mem_of_getElem? (i := 2) rfl)) (fun _ h9 => h9) rfl dX4_encodeByte_72 ?_
                  refine kI (rV (As := []) (rest := [.ref (a 3)]) ⟨hx, hb, hml, hown, hts⟩ (c_X1_shift l D cI cL cM _ (a 10) (x_iv v)  ) (cwV 0 hts gX4_encodeByte_X1_shift rfl rfl rfl (by decide +kernel) ⟨(Nat.le_of_ble_eq_true rfl), (Nat.le_of_ble_eq_true rfl)⟩) hE hP hD [34] rfl rfl rfl rfl rfl hl.1 rfl (Nat.le_of_ble_eq_true rfl) dX4_encodeByte_75 ⟨(Nat.le_of_ble_eq_true rfl), (Nat.le_of_ble_eq_true rfl)⟩) hP hD hS hA (is := [34]) rfl rfl (fun H locs hP hD hS => ?_)
                  rw [mxW_iv] at hP hD
                  have hP : va_P D vwCl (mxW cI cL cM a (xs_iv v (v_shf (x_iv v)))) H := hP
                  have hD : va_D A (mxW cI cL cM a (xs_iv v (v_shf (x_iv v)))) := hD
                  obtain ⟨s1, hs1⟩ : ∃ y9 : Mx, y9 = (xs_iv v (v_shf (x_iv v))) := ⟨_, rfl⟩
                  rw [← hs1] at hP hD
                  have hse : x_en s1 = x_en v := by rw [hs1, x_en_iv]
                  refine lv_topi (fun tp5 htp5 => ?_)
                  refine kV (rV (As := [.int tp5]) (rest := []) ⟨hx, hb, hml, hown, hts⟩ (c_X0_append l D cI cL cM _ (a 3) (a 4) 2564 (x_en s1) tp5 (by rw [hse]; exact hvc) (Nat.le_of_ble_eq_true rfl)) (cwV 1 hts gX4_encodeByte_X0_append rfl rfl rfl (by decide +kernel) ⟨(Nat.le_of_ble_eq_true rfl), (Nat.le_of_ble_eq_true rfl)⟩) hE hP hD [3, 4] rfl rfl rfl rfl rfl hl.1 rfl (Nat.le_of_ble_eq_true rfl) dX4_encodeByte_78 ⟨(Nat.le_of_ble_eq_true rfl), (Nat.le_of_ble_eq_true rfl)⟩) hP hD hS hA (is := [3, 4]) rfl rfl (fun H locs hP hD hS => ?_)
                  rw [mxW_en] at hP hD
                  have hP : va_P D vwCl (mxW cI cL cM a (xs_en s1 (q_app 2564 (x_en s1) tp5))) H := hP
                  have hD : va_D A (mxW cI cL cM a (xs_en s1 (q_app 2564 (x_en s1) tp5))) := hD
                  refine lv_iinc (v := nI (4 - (f9 - 1))) (lv' := [(5, .int (nI (4 - (f9 - 1)))), (4, .int mx5), (3, .int (zbx w (t9 - 1))), (2, .int (nI t9 - 1)), (1, .int w), (0, .ref (a 0))]) hx hb dX4_encodeByte_81 hl (k := 0) rfl (by rw [show 4 - (f9 - 1) = 4 - f9 + 1 from by omega]; exact nI_1 _) (by decide) rfl (fun ls hl => ?_)
                  refine lv_goto (tgt := 51) hx hb dX4_encodeByte_84 (by decide) ?_
                  have e9 : (xs_en s1 (q_app 2564 (x_en s1) tp5)) = x_ps v := by rw [htp5, hs1]; unfold x_ps; rw [x_en_iv]
                  exact ih_lpw (f9 - 1) (xs_en s1 (q_app 2564 (x_en s1) tp5)) (by omega) (by rw [e9]; exact (x_wh_go cw hf1).trans hvw) (by rw [e9]; exact (x_ps_pr v).trans hvp) (by rw [e9]; exact x_ps_ec hvc) (by omega) _ _ hP hD hS ls (lv_sub hl [0, 1, 2, 3, 4, 5] rfl)
          exact lpw _ 4 q0 (Nat.le_refl _) (rfl) (rfl) (hqc) (Nat.lt_succ_self _) _ _ hP hD hS ls (lv_sub hl [0, 1, 2, 3, 4, 5] rfl)
        · replace cz : (((w.toUInt32 >>> ((nI (t9 - 1)).toUInt32 &&& Int32.toUInt32 31)).toInt32) &&& 1) = (1 : Int32) := cz
          refine lv_iconst (v := 1) hx hb dX4_encodeByte_16 (by decide) ?_
          refine lv_goto (tgt := 21) hx hb dX4_encodeByte_17 (by decide) ?_
          refine topI (y := (zbx w (t9 - 1))) (by unfold zbx; rw [if_pos cz]) ?_
          refine lv_istore_n (lv' := [(3, .int (zbx w (t9 - 1))), (2, .int (nI t9 - 1)), (1, .int w), (0, .ref (a 0))]) hx hb dX4_encodeByte_21 rfl hl (by decide) rfl (fun ls hl => ?_)
          refine lv_aload_n hx hb dX4_encodeByte_22 rfl (lv_at hl 3 rfl) ?_
          refine va_get (D := D) (ci := 4) (v := .ref (a 7)) (C := RX4) (T := TX4) (N := 5) hx hb hts (fun _ h => List.mem_cons_of_mem _ (List.mem_append_left _ (List.mem_append_left _ (List.mem_append_left _ (List.mem_append_left _ (List.mem_append_right _ h)))))) hown hK hP 0 rfl rfl 3 (by decide) (hts _ (List.mem_of_getElem? (i := 1) rfl)) (fun _ h9 => h9) rfl dX4_encodeByte_23 ?_
          refine kI (rV (As := []) (rest := []) ⟨hx, hb, hml, hown, hts⟩ (c_X3_mixture l D cI cL cM _ a (x_pr y)  hn6 hph hpl) (cwV 0 hts gX4_encodeByte_X3_mixture rfl rfl rfl (by decide +kernel) ⟨(Nat.le_of_ble_eq_true rfl), (Nat.le_of_ble_eq_true rfl)⟩) hE hP hD [7, 8, 9, 10, 11, 12, 13, 14, 15, 16, 17, 18, 19, 20, 21, 22, 23, 24, 25, 26, 27, 28, 29, 30, 31, 32, 33] segnd (mxW_prC cI cL cM a _) rfl rfl rfl hl.1 rfl (Nat.le_of_ble_eq_true rfl) dX4_encodeByte_26 ⟨(Nat.le_of_ble_eq_true rfl), (Nat.le_of_ble_eq_true rfl)⟩) hP hD hS hA (is := [7, 8, 9, 10, 11, 12, 13, 14, 15, 16, 17, 18, 19, 20, 21, 22, 23, 24, 25, 26, 27, 28, 29, 30, 31, 32, 33]) (mxW_prC cI cL cM a _) (prW_fst cI cL cM a _ _) (fun H locs hP hD hS => ?_)
          rw [mxW_pr, xs_pr_self] at hP hD
          have hP : va_P D vwCl (mxW cI cL cM a y) H := hP
          have hD : va_D A (mxW cI cL cM a y) := hD
          refine lv_topi (fun mx5 hmx5 => ?_)
          refine lv_istore (lv' := [(4, .int mx5), (3, .int (zbx w (t9 - 1))), (2, .int (nI t9 - 1)), (1, .int w), (0, .ref (a 0))]) hx hb dX4_encodeByte_29 hl (by decide) rfl (fun ls hl => ?_)
          refine lv_aload_n hx hb dX4_encodeByte_31 rfl (lv_at hl 4 rfl) ?_
          refine va_get (D := D) (ci := 4) (v := .ref (a 10)) (C := RX4) (T := TX4) (N := 5) hx hb hts (fun _ h => List.mem_cons_of_mem _ (List.mem_append_left _ (List.mem_append_left _ (List.mem_append_left _ (List.mem_append_left _ (List.mem_append_right _ h)))))) hown hK hP 0 rfl rfl 4 (by decide) (hts _ (List.mem_of_getElem? (i := 2) rfl)) (fun _ h9 => h9) rfl dX4_encodeByte_32 ?_
          refine lv_iload_n hx hb dX4_encodeByte_35 rfl (lv_at hl 1 rfl) ?_
          refine lv_aload_n hx hb dX4_encodeByte_36 rfl (lv_at hl 4 rfl) ?_
          refine va_get (D := D) (ci := 4) (v := .ref (a 10)) (C := RX4) (T := TX4) (N := 5) hx hb hts (fun _ h => List.mem_cons_of_mem _ (List.mem_append_left _ (List.mem_append_left _ (List.mem_append_left _ (List.mem_append_left _ (List.mem_append_right _ h)))))) hown hK hP 0 rfl rfl 4 (by decide) (hts _ (List.mem_of_getElem? (i := 2) rfl)) (fun _ h9 => h9) rfl dX4_encodeByte_37 ?_
          refine lv_iload hx hb dX4_encodeByte_40 (lv_at hl 0 rfl) ?_
          refine kL (rV (As := [.int mx5]) (rest := [.int (zbx w (t9 - 1)), .ref (a 10)]) ⟨hx, hb, hml, hown, hts⟩ (c_X1_middle l D cI cL cM _ (a 10) (x_iv y) mx5 ) (cwV 1 hts gX4_encodeByte_X1_middle rfl rfl rfl (by decide +kernel) ⟨(Nat.le_of_ble_eq_true rfl), (Nat.le_of_ble_eq_true rfl)⟩) hE hP hD [34] rfl rfl rfl rfl rfl hl.1 rfl (Nat.le_of_ble_eq_true rfl) dX4_encodeByte_42 ⟨(Nat.le_of_ble_eq_true rfl), (Nat.le_of_ble_eq_true rfl)⟩) hP hD hS hA (is := [34]) rfl rfl (fun H locs hP hD hS => ?_)
          rw [mxW_iv, xs_iv_self] at hP hD
          have hP : va_P D vwCl (mxW cI cL cM a y) H := hP
          have hD : va_D A (mxW cI cL cM a y) := hD
          refine lv_topl (fun md5 hmd5 => ?_)
          refine kV (rV (As := [.int (zbx w (t9 - 1)), .long md5]) (rest := []) ⟨hx, hb, hml, hown, hts⟩ (c_X1_narrow l D cI cL cM _ (a 10) (x_iv y) (zbx w (t9 - 1)) md5 ) (cwV 2 hts gX4_encodeByte_X1_narrow rfl rfl rfl (by decide +kernel) ⟨(Nat.le_of_ble_eq_true rfl), (Nat.le_of_ble_eq_true rfl)⟩) hE hP hD [34] rfl rfl rfl rfl rfl hl.1 rfl (Nat.le_of_ble_eq_true rfl) dX4_encodeByte_45 ⟨(Nat.le_of_ble_eq_true rfl), (Nat.le_of_ble_eq_true rfl)⟩) hP hD hS hA (is := [34]) rfl rfl (fun H locs hP hD hS => ?_)
          rw [mxW_iv] at hP hD
          have hP : va_P D vwCl (mxW cI cL cM a (xs_iv y (v_nar (x_iv y) (zbx w (t9 - 1)) md5))) H := hP
          have hD : va_D A (mxW cI cL cM a (xs_iv y (v_nar (x_iv y) (zbx w (t9 - 1)) md5))) := hD
          obtain ⟨q0, hq0⟩ : ∃ y9 : Mx, y9 = (xs_iv y (v_nar (x_iv y) (zbx w (t9 - 1)) md5)) := ⟨_, rfl⟩
          rw [← hq0] at hP hD
          have hqp : x_pr q0 = x_pr y := by rw [hq0, x_pr_iv]
          have hqc : q_c (x_en q0) ≤ 2564 := by rw [hq0, x_en_iv]; exact hyc
          refine lv_iconst (v := 0) hx hb dX4_encodeByte_48 (by decide) ?_
          refine lv_istore (lv' := [(5, .int 0), (4, .int mx5), (3, .int (zbx w (t9 - 1))), (2, .int (nI t9 - 1)), (1, .int w), (0, .ref (a 0))]) hx hb dX4_encodeByte_49 hl (by decide) rfl (fun ls hl => ?_)
          have lpw : ∀ (n9 : Nat) (f9 : Nat) (v : Mx) (hf9 : f9 ≤ 4) (hvw : x_wh f9 v = x_wh 4 q0) (hvp : x_pr v = x_pr q0) (hvc : q_c (x_en v) ≤ 2564), f9 < n9 → ∀ (H : Heap) (locs : List Loc), va_P D vwCl (mxW cI cL cM a v) H → va_D A (mxW cI cL cM a v) → va_S A s.heap H locs → ∀ (ls : Array Slot), lv_has ls 6 [(5, .int (nI (4 - f9))), (4, .int mx5), (3, .int (zbx w (t9 - 1))), (2, .int (nI t9 - 1)), (1, .int w), (0, .ref (a 0))] → W p l e (headSpec wsX4_encodeByte ({ frames := 5, cells := 0, slots := 0, locals := 110 })).room s m (([.ref (a 0), .int w] : List Value).toArray) below meth c H locs 0 0 (MQ below (va_Qv (fun (_ : Unit) => True) (fun _ t => hq D A (mxW cI cL cM a (x_byt w 8 x)) t) A) (([.ref (a 0), .int w] : List Value).toArray) s 0 0 A) (F0 m 51 ls []) := by
            intro n9
            induction n9 with
            | zero => intro f9 v hf9 hvw hvp hvc hm9; exact absurd hm9 (Nat.not_lt_zero _)
            | succ n9 ih_lpw =>
              intro f9 v hf9 hvw hvp hvc hm9 H locs hP hD hS ls hl
              refine lv_iload hx hb dX4_encodeByte_51 (lv_at hl 0 rfl) ?_
              refine lv_iconst (v := 4) hx hb dX4_encodeByte_53 (by decide) ?_
              refine lv_icmp_ge (tgt := 87) hx hb dX4_encodeByte_54 (by decide) (fun c4 => ?_) (fun c4 => ?_)
              · replace c4 : (4 : Int32) ≤ (nI (4 - f9)) := c4
                have hf0 : f9 = 0 := by have h8 := ge_N (a := 4) (by omega) (by omega) c4; omega
                have hq0v : x_wh 4 q0 = v := by rw [← hvw, hf0]; rfl
                have hpy : x_pr v = x_pr y := hvp.trans hqp
                refine lv_aload_n hx hb dX4_encodeByte_87 rfl (lv_at hl 5 rfl) ?_
                refine va_get (D := D) (ci := 4) (v := .ref (a 7)) (C := RX4) (T := TX4) (N := 5) hx hb hts (fun _ h => List.mem_cons_of_mem _ (List.mem_append_left _ (List.mem_append_left _ (List.mem_append_left _ (List.mem_append_left _ (List.mem_append_right _ h)))))) hown hK hP 0 rfl rfl 3 (by decide) (hts _ (List.mem_of_getElem? (i := 1) rfl)) (fun _ h9 => h9) rfl dX4_encodeByte_88 ?_
                refine lv_iload_n hx hb dX4_encodeByte_91 rfl (lv_at hl 2 rfl) ?_
                refine lv_iload hx hb dX4_encodeByte_92 (lv_at hl 1 rfl) ?_
                refine kV (rV (As := [.int (zbx w (t9 - 1)), .int mx5]) (rest := []) ⟨hx, hb, hml, hown, hts⟩ (c_X3_learn l D cI cL cM _ a (x_pr v) (zbx w (t9 - 1)) mx5 (by rw [hpy]; exact hn6) (by rw [hpy]; exact hnd) (by rw [hpy]; exact hph) (by rw [hpy]; exact hpl)) (cwV 2 hts gX4_encodeByte_X3_learn rfl rfl rfl (by decide +kernel) ⟨(Nat.le_of_ble_eq_true rfl), (Nat.le_of_ble_eq_true rfl)⟩) hE hP hD [7, 8, 9, 10, 11, 12, 13, 14, 15, 16, 17, 18, 19, 20, 21, 22, 23, 24, 25, 26, 27, 28, 29, 30, 31, 32, 33] segnd (mxW_prC cI cL cM a _) rfl rfl rfl hl.1 rfl (Nat.le_of_ble_eq_true rfl) dX4_encodeByte_94 ⟨(Nat.le_of_ble_eq_true rfl), (Nat.le_of_ble_eq_true rfl)⟩) hP hD hS hA (is := [7, 8, 9, 10, 11, 12, 13, 14, 15, 16, 17, 18, 19, 20, 21, 22, 23, 24, 25, 26, 27, 28, 29, 30, 31, 32, 33]) (mxW_prC cI cL cM a _) (prW_fst cI cL cM a _ _) (fun H locs hP hD hS => ?_)
                rw [mxW_pr] at hP hD
                have hP : va_P D vwCl (mxW cI cL cM a (xs_pr v (k_ln (zbx w (t9 - 1)) mx5 (x_pr v)))) H := hP
                have hD : va_D A (mxW cI cL cM a (xs_pr v (k_ln (zbx w (t9 - 1)) mx5 (x_pr v)))) := hD
                refine lv_iinc (v := nI (t9 - 1) - 1) (lv' := [(2, .int (nI (t9 - 1) - 1)), (5, .int (nI (4 - f9))), (4, .int mx5), (3, .int (zbx w (t9 - 1))), (1, .int w), (0, .ref (a 0))]) hx hb dX4_encodeByte_97 hl (k := 3) rfl (m1dec ht1) (by decide) rfl (fun ls hl => ?_)
                refine lv_goto (tgt := 3) hx hb dX4_encodeByte_100 (by decide) ?_
                exact ih_lpb (t9 - 1) (xs_pr v (k_ln (zbx w (t9 - 1)) mx5 (x_pr v))) (by omega) ((x_byt_s ht1 (by unfold x_bit x_prt; rw [← hmx5, ← hmd5, ← hq0, hq0v])).trans hy) (by rw [x_pr_pr, hpy, hmx5]; exact hJ.2 _ _ hyJ) (by rw [x_en_pr]; exact hvc) (by omega) _ _ hP hD hS ls (lv_sub hl [0, 4, 5] rfl)
              · replace c4 : ¬ (4 : Int32) ≤ (nI (4 - f9)) := c4
                have hf1 : 1 ≤ f9 := by have h8 := nge_N (a := 4) (by omega) (by omega) c4; omega
                refine lv_aload_n hx hb dX4_encodeByte_57 rfl (lv_at hl 5 rfl) ?_
                refine va_get (D := D) (ci := 4) (v := .ref (a 10)) (C := RX4) (T := TX4) (N := 5) hx hb hts (fun _ h => List.mem_cons_of_mem _ (List.mem_append_left _ (List.mem_append_left _ (List.mem_append_left _ (List.mem_append_left _ (List.mem_append_right _ h)))))) hown hK hP 0 rfl rfl 4 (by decide) (hts _ (List.mem_of_getElem? (i := 2) rfl)) (fun _ h9 => h9) rfl dX4_encodeByte_58 ?_
                refine kI (rV (As := []) (rest := []) ⟨hx, hb, hml, hown, hts⟩ (c_X1_isSettled l D cI cL cM _ (a 10) (x_iv v)  ) (cwV 0 hts gX4_encodeByte_X1_isSettled rfl rfl rfl (by decide +kernel) ⟨(Nat.le_of_ble_eq_true rfl), (Nat.le_of_ble_eq_true rfl)⟩) hE hP hD [34] rfl rfl rfl rfl rfl hl.1 rfl (Nat.le_of_ble_eq_true rfl) dX4_encodeByte_61 ⟨(Nat.le_of_ble_eq_true rfl), (Nat.le_of_ble_eq_true rfl)⟩) hP hD hS hA (is := [34]) rfl rfl (fun H locs hP hD hS => ?_)
                rw [mxW_iv, xs_iv_self] at hP hD
                have hP : va_P D vwCl (mxW cI cL cM a v) H := hP
                have hD : va_D A (mxW cI cL cM a v) := hD
                refine lv_if_eq (tgt := 87) hx hb dX4_encodeByte_64 (by decide) (fun cw => ?_) (fun cw => ?_)
                · replace cw : (v_set (x_iv v)) = (0 : Int32) := cw
                  have hq0v : x_wh 4 q0 = v := by rw [← hvw]; exact x_wh_stop cw f9
                  have hpy : x_pr v = x_pr y := hvp.trans hqp
                  refine lv_aload_n hx hb dX4_encodeByte_87 rfl (lv_at hl 5 rfl) ?_
                  refine va_get (D := D) (ci := 4) (v := .ref (a 7)) (C := RX4) (T := TX4) (N := 5) hx hb hts (fun _ h => List.mem_cons_of_mem _ (List.mem_append_left _ (List.mem_append_left _ (List.mem_append_left _ (List.mem_append_left _ (List.mem_append_right _ h)))))) hown hK hP 0 rfl rfl 3 (by decide) (hts _ (List.mem_of_getElem? (i := 1) rfl)) (fun _ h9 => h9) rfl dX4_encodeByte_88 ?_
                  refine lv_iload_n hx hb dX4_encodeByte_91 rfl (lv_at hl 2 rfl) ?_
                  refine lv_iload hx hb dX4_encodeByte_92 (lv_at hl 1 rfl) ?_
                  refine kV (rV (As := [.int (zbx w (t9 - 1)), .int mx5]) (rest := []) ⟨hx, hb, hml, hown, hts⟩ (c_X3_learn l D cI cL cM _ a (x_pr v) (zbx w (t9 - 1)) mx5 (by rw [hpy]; exact hn6) (by rw [hpy]; exact hnd) (by rw [hpy]; exact hph) (by rw [hpy]; exact hpl)) (cwV 2 hts gX4_encodeByte_X3_learn rfl rfl rfl (by decide +kernel) ⟨(Nat.le_of_ble_eq_true rfl), (Nat.le_of_ble_eq_true rfl)⟩) hE hP hD [7, 8, 9, 10, 11, 12, 13, 14, 15, 16, 17, 18, 19, 20, 21, 22, 23, 24, 25, 26, 27, 28, 29, 30, 31, 32, 33] segnd (mxW_prC cI cL cM a _) rfl rfl rfl hl.1 rfl (Nat.le_of_ble_eq_true rfl) dX4_encodeByte_94 ⟨(Nat.le_of_ble_eq_true rfl), (Nat.le_of_ble_eq_true rfl)⟩) hP hD hS hA (is := [7, 8, 9, 10, 11, 12, 13, 14, 15, 16, 17, 18, 19, 20, 21, 22, 23, 24, 25, 26, 27, 28, 29, 30, 31, 32, 33]) (mxW_prC cI cL cM a _) (prW_fst cI cL cM a _ _) (fun H locs hP hD hS => ?_)
                  rw [mxW_pr] at hP hD
                  have hP : va_P D vwCl (mxW cI cL cM a (xs_pr v (k_ln (zbx w (t9 - 1)) mx5 (x_pr v)))) H := hP
                  have hD : va_D A (mxW cI cL cM a (xs_pr v (k_ln (zbx w (t9 - 1)) mx5 (x_pr v)))) := hD
                  refine lv_iinc (v := nI (t9 - 1) - 1) (lv' := [(2, .int (nI (t9 - 1) - 1)), (5, .int (nI (4 - f9))), (4, .int mx5), (3, .int (zbx w (t9 - 1))), (1, .int w), (0, .ref (a 0))]) hx hb dX4_encodeByte_97 hl (k := 3) rfl (m1dec ht1) (by decide) rfl (fun ls hl => ?_)
                  refine lv_goto (tgt := 3) hx hb dX4_encodeByte_100 (by decide) ?_
                  exact ih_lpb (t9 - 1) (xs_pr v (k_ln (zbx w (t9 - 1)) mx5 (x_pr v))) (by omega) ((x_byt_s ht1 (by unfold x_bit x_prt; rw [← hmx5, ← hmd5, ← hq0, hq0v])).trans hy) (by rw [x_pr_pr, hpy, hmx5]; exact hJ.2 _ _ hyJ) (by rw [x_en_pr]; exact hvc) (by omega) _ _ hP hD hS ls (lv_sub hl [0, 4, 5] rfl)
                · replace cw : ¬ (v_set (x_iv v)) = (0 : Int32) := cw
                  refine lv_aload_n hx hb dX4_encodeByte_67 rfl (lv_at hl 5 rfl) ?_
                  refine va_get (D := D) (ci := 4) (v := .ref (a 3)) (C := RX4) (T := TX4) (N := 5) hx hb hts (fun _ h => List.mem_cons_of_mem _ (List.mem_append_left _ (List.mem_append_left _ (List.mem_append_left _ (List.mem_append_left _ (List.mem_append_right _ h)))))) hown hK hP 0 rfl rfl 1 (by decide) (hts _ (List.mem_of_getElem? (i := 3) rfl)) (fun _ h9 => h9) rfl dX4_encodeByte_68 ?_
                  refine lv_aload_n hx hb dX4_encodeByte_71 rfl (lv_at hl 5 rfl) ?_
                  refine va_get (D := D) (ci := 4) (v := .ref (a 10)) (C := RX4) (T := TX4) (N := 5) hx hb hts (fun _ h => List.mem_cons_of_mem _ (List.mem_append_left _ (List.mem_append_left _ (List.mem_append_left _ (List.mem_append_left _ (List.mem_append_right _ h)))))) hown hK hP 0 rfl rfl 4 (by decide) (hts _ (List.mem_of_getElem? (i := 2) rfl)) (fun _ h9 => h9) rfl dX4_encodeByte_72 ?_
                  refine kI (rV (As := []) (rest := [.ref (a 3)]) ⟨hx, hb, hml, hown, hts⟩ (c_X1_shift l D cI cL cM _ (a 10) (x_iv v)  ) (cwV 0 hts gX4_encodeByte_X1_shift rfl rfl rfl (by decide +kernel) ⟨(Nat.le_of_ble_eq_true rfl), (Nat.le_of_ble_eq_true rfl)⟩) hE hP hD [34] rfl rfl rfl rfl rfl hl.1 rfl (Nat.le_of_ble_eq_true rfl) dX4_encodeByte_75 ⟨(Nat.le_of_ble_eq_true rfl), (Nat.le_of_ble_eq_true rfl)⟩) hP hD hS hA (is := [34]) rfl rfl (fun H locs hP hD hS => ?_)
                  rw [mxW_iv] at hP hD
                  have hP : va_P D vwCl (mxW cI cL cM a (xs_iv v (v_shf (x_iv v)))) H := hP
                  have hD : va_D A (mxW cI cL cM a (xs_iv v (v_shf (x_iv v)))) := hD
                  obtain ⟨s1, hs1⟩ : ∃ y9 : Mx, y9 = (xs_iv v (v_shf (x_iv v))) := ⟨_, rfl⟩
                  rw [← hs1] at hP hD
                  have hse : x_en s1 = x_en v := by rw [hs1, x_en_iv]
                  refine lv_topi (fun tp5 htp5 => ?_)
                  refine kV (rV (As := [.int tp5]) (rest := []) ⟨hx, hb, hml, hown, hts⟩ (c_X0_append l D cI cL cM _ (a 3) (a 4) 2564 (x_en s1) tp5 (by rw [hse]; exact hvc) (Nat.le_of_ble_eq_true rfl)) (cwV 1 hts gX4_encodeByte_X0_append rfl rfl rfl (by decide +kernel) ⟨(Nat.le_of_ble_eq_true rfl), (Nat.le_of_ble_eq_true rfl)⟩) hE hP hD [3, 4] rfl rfl rfl rfl rfl hl.1 rfl (Nat.le_of_ble_eq_true rfl) dX4_encodeByte_78 ⟨(Nat.le_of_ble_eq_true rfl), (Nat.le_of_ble_eq_true rfl)⟩) hP hD hS hA (is := [3, 4]) rfl rfl (fun H locs hP hD hS => ?_)
                  rw [mxW_en] at hP hD
                  have hP : va_P D vwCl (mxW cI cL cM a (xs_en s1 (q_app 2564 (x_en s1) tp5))) H := hP
                  have hD : va_D A (mxW cI cL cM a (xs_en s1 (q_app 2564 (x_en s1) tp5))) := hD
                  refine lv_iinc (v := nI (4 - (f9 - 1))) (lv' := [(5, .int (nI (4 - (f9 - 1)))), (4, .int mx5), (3, .int (zbx w (t9 - 1))), (2, .int (nI t9 - 1)), (1, .int w), (0, .ref (a 0))]) hx hb dX4_encodeByte_81 hl (k := 0) rfl (by rw [show 4 - (f9 - 1) = 4 - f9 + 1 from by omega]; exact nI_1 _) (by decide) rfl (fun ls hl => ?_)
                  refine lv_goto (tgt := 51) hx hb dX4_encodeByte_84 (by decide) ?_
                  have e9 : (xs_en s1 (q_app 2564 (x_en s1) tp5)) = x_ps v := by rw [htp5, hs1]; unfold x_ps; rw [x_en_iv]
                  exact ih_lpw (f9 - 1) (xs_en s1 (q_app 2564 (x_en s1) tp5)) (by omega) (by rw [e9]; exact (x_wh_go cw hf1).trans hvw) (by rw [e9]; exact (x_ps_pr v).trans hvp) (by rw [e9]; exact x_ps_ec hvc) (by omega) _ _ hP hD hS ls (lv_sub hl [0, 1, 2, 3, 4, 5] rfl)
          exact lpw _ 4 q0 (Nat.le_refl _) (rfl) (rfl) (hqc) (Nat.lt_succ_self _) _ _ hP hD hS ls (lv_sub hl [0, 1, 2, 3, 4, 5] rfl)
  exact lpb _ 8 x (Nat.le_refl _) (rfl) (hJ0) (hec) (Nat.lt_succ_self _) _ _ hP hD hS ls (lv_sub hl [0, 2, 1] rfl)
