/-! ===== BitMixer decodes ===== -/
theorem mxW_pull (cI cL cM : ClassId) (a : Nat → Nat) (x : Mx) : putW (mxW cI cL cM a x) [34, 3, 4] (irW cI (a 10) (a 3) (a 4) 2564 (i_pul (x_iv x, x_en x))) = mxW cI cL cM a (xs_iv x (v_pul (x_iv x) (x_en x))) := by
  rw [mxW_ie, i_pul_r]
  unfold i_pul
  rw [i_v_v]
  rfl
def zdx (x m : Int64) : Int32 := if (0 : Int32) < lg_cmp x m then 0 else 1
def x_sh (y : Mx) : Mx := xs_iv y (v_shf (x_iv y))
def x_dst (y : Mx) : Mx := xs_iv (x_sh y) (v_pul (x_iv (x_sh y)) (x_en (x_sh y)))
def x_dwh : Nat → Mx → Mx
  | 0, y => y
  | n + 1, y => if v_set (x_iv y) = 0 then y else x_dwh n (x_dst y)
theorem x_dwh_stop {y : Mx} (h : v_set (x_iv y) = 0) (n : Nat) : x_dwh n y = y := by cases n with
  | zero => rfl
  | succ n => exact if_pos h
theorem x_dwh_go {y : Mx} (h : ¬ v_set (x_iv y) = 0) {n : Nat} (hn : 1 ≤ n) : x_dwh (n - 1) (x_dst y) = x_dwh n y := by
  obtain ⟨j, rfl⟩ : ∃ j, n = j + 1 := ⟨n - 1, by omega⟩
  exact (if_neg h).symm
theorem x_dst_pr (y : Mx) : x_pr (x_dst y) = x_pr y := by unfold x_dst; rw [x_pr_iv]; unfold x_sh; rw [x_pr_iv]
theorem x_dst_en (y : Mx) : x_en (x_dst y) = x_en y := by unfold x_dst; rw [x_en_iv]; unfold x_sh; rw [x_en_iv]
def x_zd (y : Mx) : Int32 := zdx (v_x (x_iv y)) (v_mid (x_iv y) (k_mx (x_pr y)))
def x_db (y : Mx) : Mx := xs_pr (x_dwh 4 (x_prt (x_zd y) y)) (k_ln (x_zd y) (k_mx (x_pr y)) (x_pr (x_dwh 4 (x_prt (x_zd y) y))))
def x_dby (x : Mx) : Nat → Mx × Int32
  | 0 => (x, 0)
  | k + 1 => (x_db (x_dby x k).1, 2 * (x_dby x k).2 + (if x_zd (x_dby x k).1 = 0 then 0 else 1))

set_option maxHeartbeats 4000000 in
set_option maxRecDepth 100000 in
theorem c_X4_decodeByte (l : Launch) (D : va_G) (cI cL cM : ClassId) (A : Nat → Prop) (a : Nat → Nat) (x : Mx) (J : Pr → Prop) (hJ : JInv J) (hJ0 : J (x_pr x)) (hec : q_c (x_en x) ≤ 2564) : mI l yX4_decodeByte wsX4_decodeByte ({ frames := 5, cells := 0, slots := 0, locals := 110 }) D (tB cI cL cM) A [.ref (a 0)] (mxW cI cL cM a x) ((x_dby x 8).2) (mxW cI cL cM a ((x_dby x 8).1)) := by
  refine Met.ofW (cc := cX4_decodeByte) (maxL := 8) (ret := (some .int)) (by decide) rfl ?_
  intro p e s m args below meth c s₁ B hml hv
  obtain ⟨rfl, hP, hE, hD, hA⟩ := hv
  have hK := hE.1
  have hx := B.exec
  have hb := B.bytes
  have hr := B.returns
  have hts := atoms_spec (ws := wsX4_decodeByte) B.pre
  have hown : s.vm.findClass RX4 = some m.cls := findClass_of_methodNamed B.named
  have hlocks := B.notSynchronized
  have hS : va_S A s.heap s.heap [] := va_S.rf
  have hl := lv_entry ([.ref (a 0)]) (n := 8) (Nat.le_of_ble_eq_true rfl)
  rw [lg_entry_eq]
  generalize (lg_sl ([.ref (a 0)]) ++ List.replicate (8 - (lg_sl ([.ref (a 0)])).length) Slot.unset).toArray = ls at hl ⊢
  have hl : lv_has ls 8 [(0, .ref (a 0))] := hl
  refine lv_iconst (v := 0) hx hb dX4_decodeByte_0 (by decide) ?_
  refine lv_istore_n (lv' := [(1, .int 0), (0, .ref (a 0))]) hx hb dX4_decodeByte_1 rfl hl (by decide) rfl (fun ls hl => ?_)
  refine lv_iconst (v := 0) hx hb dX4_decodeByte_2 (by decide) ?_
  refine lv_istore_n (lv' := [(2, .int 0), (1, .int 0), (0, .ref (a 0))]) hx hb dX4_decodeByte_3 rfl hl (by decide) rfl (fun ls hl => ?_)
  have lpb : ∀ (n9 : Nat) (k9 : Nat) (y : Mx) (vl : Int32) (hk9 : k9 ≤ 8) (hy : x_dby x k9 = (y, vl)) (hyJ : J (x_pr y)) (hye : x_en y = x_en x), 8 - k9 < n9 → ∀ (H : Heap) (locs : List Loc), va_P D vwCl (mxW cI cL cM a y) H → va_D A (mxW cI cL cM a y) → va_S A s.heap H locs → ∀ (ls : Array Slot), lv_has ls 8 [(2, .int (nI k9)), (1, .int vl), (0, .ref (a 0))] → W p l e (headSpec wsX4_decodeByte ({ frames := 5, cells := 0, slots := 0, locals := 110 })).room s m (([.ref (a 0)] : List Value).toArray) below meth c H locs 0 0 (MQ below (va_Qi (fun x9 (_ : Unit) => x9 = ((x_dby x 8).2)) (fun _ t => hq D A (mxW cI cL cM a ((x_dby x 8).1)) t) A) (([.ref (a 0)] : List Value).toArray) s 0 0 A) (F0 m 4 ls []) := by
    intro n9
    induction n9 with
    | zero => intro k9 y vl hk9 hy hyJ hye hm9; exact absurd hm9 (Nat.not_lt_zero _)
    | succ n9 ih_lpb =>
      intro k9 y vl hk9 hy hyJ hye hm9 H locs hP hD hS ls hl
      refine lv_iload_n hx hb dX4_decodeByte_4 rfl (lv_at hl 0 rfl) ?_
      refine lv_bipush (v := 8) hx hb dX4_decodeByte_5 (by decide) ?_
      refine lv_icmp_ge (tgt := 134) hx hb dX4_decodeByte_7 (by decide) (fun ck => ?_) (fun ck => ?_)
      · replace ck : (8 : Int32) ≤ (nI k9) := ck
        have hk8 : k9 = 8 := by have h8 := ge_N (a := 8) (by omega) (by omega) ck; omega
        refine lv_iload_n hx hb dX4_decodeByte_134 rfl (lv_at hl 1 rfl) ?_
        have hw9 : (mxW cI cL cM a y) = (mxW cI cL cM a ((x_dby x 8).1)) := by (rw [← hk8, hy])
        rw [hw9] at hP hD
        exact W.iret (v := vl) hx hb hr (fun t ht hW => ⟨⟨vl, (), rfl, by (rw [← hk8, hy]), by rw [ht]; exact hP, hD⟩, hS.F ht⟩) hS.2.2 dX4_decodeByte_135
      · replace ck : ¬ (8 : Int32) ≤ (nI k9) := ck
        have hk8 : k9 < 8 := nge_N (a := 8) (by omega) (by omega) ck
        obtain ⟨hn6, hnd, hph, hpl⟩ := hJ.1 _ hyJ
        refine lv_aload_n hx hb dX4_decodeByte_10 rfl (lv_at hl 2 rfl) ?_
        refine va_get (D := D) (ci := 4) (v := .ref (a 7)) (C := RX4) (T := TX4) (N := 5) hx hb hts (fun _ h => List.mem_cons_of_mem _ (List.mem_append_left _ (List.mem_append_left _ (List.mem_append_left _ (List.mem_append_left _ (List.mem_append_right _ h)))))) hown hK hP 0 rfl rfl 3 (by decide) (hts _ (List.mem_of_getElem? (i := 1) rfl)) (fun _ h9 => h9) rfl dX4_decodeByte_11 ?_
        refine kI (rV (As := []) (rest := []) ⟨hx, hb, hml, hown, hts⟩ (c_X3_mixture l D cI cL cM _ a (x_pr y)  hn6 hph hpl) (cwV 0 hts gX4_decodeByte_X3_mixture rfl rfl rfl (by decide +kernel) ⟨(Nat.le_of_ble_eq_true rfl), (Nat.le_of_ble_eq_true rfl)⟩) hE hP hD [7, 8, 9, 10, 11, 12, 13, 14, 15, 16, 17, 18, 19, 20, 21, 22, 23, 24, 25, 26, 27, 28, 29, 30, 31, 32, 33] segnd (mxW_prC cI cL cM a _) rfl rfl rfl hl.1 rfl (Nat.le_of_ble_eq_true rfl) dX4_decodeByte_14 ⟨(Nat.le_of_ble_eq_true rfl), (Nat.le_of_ble_eq_true rfl)⟩) hP hD hS hA (is := [7, 8, 9, 10, 11, 12, 13, 14, 15, 16, 17, 18, 19, 20, 21, 22, 23, 24, 25, 26, 27, 28, 29, 30, 31, 32, 33]) (mxW_prC cI cL cM a _) (prW_fst cI cL cM a _ _) (fun H locs hP hD hS => ?_)
        rw [mxW_pr, xs_pr_self] at hP hD
        have hP : va_P D vwCl (mxW cI cL cM a y) H := hP
        have hD : va_D A (mxW cI cL cM a y) := hD
        refine lv_topi (fun mx5 hmx5 => ?_)
        refine lv_istore_n (lv' := [(3, .int mx5), (2, .int (nI k9)), (1, .int vl), (0, .ref (a 0))]) hx hb dX4_decodeByte_17 rfl hl (by decide) rfl (fun ls hl => ?_)
        refine lv_aload_n hx hb dX4_decodeByte_18 rfl (lv_at hl 3 rfl) ?_
        refine va_get (D := D) (ci := 4) (v := .ref (a 10)) (C := RX4) (T := TX4) (N := 5) hx hb hts (fun _ h => List.mem_cons_of_mem _ (List.mem_append_left _ (List.mem_append_left _ (List.mem_append_left _ (List.mem_append_left _ (List.mem_append_right _ h)))))) hown hK hP 0 rfl rfl 4 (by decide) (hts _ (List.mem_of_getElem? (i := 2) rfl)) (fun _ h9 => h9) rfl dX4_decodeByte_19 ?_
        refine lv_iload_n hx hb dX4_decodeByte_22 rfl (lv_at hl 0 rfl) ?_
        refine kL (rV (As := [.int mx5]) (rest := []) ⟨hx, hb, hml, hown, hts⟩ (c_X1_middle l D cI cL cM _ (a 10) (x_iv y) mx5 ) (cwV 1 hts gX4_decodeByte_X1_middle rfl rfl rfl (by decide +kernel) ⟨(Nat.le_of_ble_eq_true rfl), (Nat.le_of_ble_eq_true rfl)⟩) hE hP hD [34] rfl rfl rfl rfl rfl hl.1 rfl (Nat.le_of_ble_eq_true rfl) dX4_decodeByte_23 ⟨(Nat.le_of_ble_eq_true rfl), (Nat.le_of_ble_eq_true rfl)⟩) hP hD hS hA (is := [34]) rfl rfl (fun H locs hP hD hS => ?_)
        rw [mxW_iv, xs_iv_self] at hP hD
        have hP : va_P D vwCl (mxW cI cL cM a y) H := hP
        have hD : va_D A (mxW cI cL cM a y) := hD
        refine lv_topl (fun md5 hmd5 => ?_)
        refine lv_lstore (lv' := [(4, .long md5), (3, .int mx5), (2, .int (nI k9)), (1, .int vl), (0, .ref (a 0))]) hx hb dX4_decodeByte_26 hl (by decide) rfl (fun ls hl => ?_)
        refine lv_aload_n hx hb dX4_decodeByte_28 rfl (lv_at hl 4 rfl) ?_
        refine va_get (D := D) (ci := 4) (v := .ref (a 10)) (C := RX4) (T := TX4) (N := 5) hx hb hts (fun _ h => List.mem_cons_of_mem _ (List.mem_append_left _ (List.mem_append_left _ (List.mem_append_left _ (List.mem_append_left _ (List.mem_append_right _ h)))))) hown hK hP 0 rfl rfl 4 (by decide) (hts _ (List.mem_of_getElem? (i := 2) rfl)) (fun _ h9 => h9) rfl dX4_decodeByte_29 ?_
        refine va_get (D := D) (ci := 1) (v := .long (v_x (x_iv y))) (C := RX1) (T := TX1) (N := 4) hx hb hts (fun _ h => List.mem_cons_of_mem _ (List.mem_append_left _ (List.mem_append_left _ (List.mem_append_left _ (List.mem_append_right _ h))))) hown hK hP 34 rfl rfl 2 (by decide) (hts _ (List.mem_of_getElem? (i := 3) rfl)) (fun _ h9 => h9) rfl dX4_decodeByte_32 ?_
        have hzd : x_zd y = (zdx (v_x (x_iv y)) md5) := by unfold x_zd; rw [← hmx5, ← hmd5]
        refine lv_topl (fun xv5 hxv5 => ?_)
        refine lv_lload hx hb dX4_decodeByte_35 (lv_at hl 0 rfl) ?_
        refine W.lcmp hx hb dX4_decodeByte_37 ?_
        refine lv_if_gt (tgt := 45) hx hb dX4_decodeByte_38 (by decide) (fun cz => ?_) (fun cz => ?_)
        · replace cz : (0 : Int32) < (lg_cmp xv5 md5) := cz
          refine lv_iconst (v := 0) hx hb dX4_decodeByte_45 (by decide) ?_
          refine topI (y := (zdx xv5 md5)) (by unfold zdx; rw [if_pos cz]) ?_
          refine lv_istore (lv' := [(6, .int (zdx xv5 md5)), (4, .long md5), (3, .int mx5), (2, .int (nI k9)), (1, .int vl), (0, .ref (a 0))]) hx hb dX4_decodeByte_46 hl (by decide) rfl (fun ls hl => ?_)
          refine lv_aload_n hx hb dX4_decodeByte_48 rfl (lv_at hl 5 rfl) ?_
          refine va_get (D := D) (ci := 4) (v := .ref (a 10)) (C := RX4) (T := TX4) (N := 5) hx hb hts (fun _ h => List.mem_cons_of_mem _ (List.mem_append_left _ (List.mem_append_left _ (List.mem_append_left _ (List.mem_append_left _ (List.mem_append_right _ h)))))) hown hK hP 0 rfl rfl 4 (by decide) (hts _ (List.mem_of_getElem? (i := 2) rfl)) (fun _ h9 => h9) rfl dX4_decodeByte_49 ?_
          refine lv_iload hx hb dX4_decodeByte_52 (lv_at hl 0 rfl) ?_
          refine lv_lload hx hb dX4_decodeByte_54 (lv_at hl 1 rfl) ?_
          refine kV (rV (As := [.int (zdx xv5 md5), .long md5]) (rest := []) ⟨hx, hb, hml, hown, hts⟩ (c_X1_narrow l D cI cL cM _ (a 10) (x_iv y) (zdx xv5 md5) md5 ) (cwV 2 hts gX4_decodeByte_X1_narrow rfl rfl rfl (by decide +kernel) ⟨(Nat.le_of_ble_eq_true rfl), (Nat.le_of_ble_eq_true rfl)⟩) hE hP hD [34] rfl rfl rfl rfl rfl hl.1 rfl (Nat.le_of_ble_eq_true rfl) dX4_decodeByte_56 ⟨(Nat.le_of_ble_eq_true rfl), (Nat.le_of_ble_eq_true rfl)⟩) hP hD hS hA (is := [34]) rfl rfl (fun H locs hP hD hS => ?_)
          rw [mxW_iv] at hP hD
          have hP : va_P D vwCl (mxW cI cL cM a (xs_iv y (v_nar (x_iv y) (zdx xv5 md5) md5))) H := hP
          have hD : va_D A (mxW cI cL cM a (xs_iv y (v_nar (x_iv y) (zdx xv5 md5) md5))) := hD
          obtain ⟨q0, hq0⟩ : ∃ y9 : Mx, y9 = (xs_iv y (v_nar (x_iv y) (zdx xv5 md5) md5)) := ⟨_, rfl⟩
          rw [← hq0] at hP hD
          have hqp : x_pr q0 = x_pr y := by rw [hq0, x_pr_iv]
          have hqe : x_en q0 = x_en y := by rw [hq0, x_en_iv]
          have hzd : x_zd y = (zdx xv5 md5) := by rw [hzd, hxv5]
          have hqp2 : x_prt (zdx xv5 md5) y = q0 := by rw [hq0]; unfold x_prt; rw [← hmx5, ← hmd5]
          refine lv_iconst (v := 0) hx hb dX4_decodeByte_59 (by decide) ?_
          refine lv_istore (lv' := [(7, .int 0), (6, .int (zdx xv5 md5)), (4, .long md5), (3, .int mx5), (2, .int (nI k9)), (1, .int vl), (0, .ref (a 0))]) hx hb dX4_decodeByte_60 hl (by decide) rfl (fun ls hl => ?_)
          have lpw : ∀ (n9 : Nat) (f9 : Nat) (v : Mx) (hf9 : f9 ≤ 4) (hvw : x_dwh f9 v = x_dwh 4 q0) (hvp : x_pr v = x_pr q0) (hve : x_en v = x_en q0), f9 < n9 → ∀ (H : Heap) (locs : List Loc), va_P D vwCl (mxW cI cL cM a v) H → va_D A (mxW cI cL cM a v) → va_S A s.heap H locs → ∀ (ls : Array Slot), lv_has ls 8 [(7, .int (nI (4 - f9))), (6, .int (zdx xv5 md5)), (4, .long md5), (3, .int mx5), (2, .int (nI k9)), (1, .int vl), (0, .ref (a 0))] → W p l e (headSpec wsX4_decodeByte ({ frames := 5, cells := 0, slots := 0, locals := 110 })).room s m (([.ref (a 0)] : List Value).toArray) below meth c H locs 0 0 (MQ below (va_Qi (fun x9 (_ : Unit) => x9 = ((x_dby x 8).2)) (fun _ t => hq D A (mxW cI cL cM a ((x_dby x 8).1)) t) A) (([.ref (a 0)] : List Value).toArray) s 0 0 A) (F0 m 62 ls []) := by
            intro n9
            induction n9 with
            | zero => intro f9 v hf9 hvw hvp hve hm9; exact absurd hm9 (Nat.not_lt_zero _)
            | succ n9 ih_lpw =>
              intro f9 v hf9 hvw hvp hve hm9 H locs hP hD hS ls hl
              refine lv_iload hx hb dX4_decodeByte_62 (lv_at hl 0 rfl) ?_
              refine lv_iconst (v := 4) hx hb dX4_decodeByte_64 (by decide) ?_
              refine lv_icmp_ge (tgt := 103) hx hb dX4_decodeByte_65 (by decide) (fun c4 => ?_) (fun c4 => ?_)
              · replace c4 : (4 : Int32) ≤ (nI (4 - f9)) := c4
                have hf0 : f9 = 0 := by have h8 := ge_N (a := 4) (by omega) (by omega) c4; omega
                have hq0v : x_dwh 4 q0 = v := by rw [← hvw, hf0]; rfl
                have hpy : x_pr v = x_pr y := hvp.trans hqp
                refine lv_aload_n hx hb dX4_decodeByte_103 rfl (lv_at hl 6 rfl) ?_
                refine va_get (D := D) (ci := 4) (v := .ref (a 7)) (C := RX4) (T := TX4) (N := 5) hx hb hts (fun _ h => List.mem_cons_of_mem _ (List.mem_append_left _ (List.mem_append_left _ (List.mem_append_left _ (List.mem_append_left _ (List.mem_append_right _ h)))))) hown hK hP 0 rfl rfl 3 (by decide) (hts _ (List.mem_of_getElem? (i := 1) rfl)) (fun _ h9 => h9) rfl dX4_decodeByte_104 ?_
                refine lv_iload hx hb dX4_decodeByte_107 (lv_at hl 1 rfl) ?_
                refine lv_iload_n hx hb dX4_decodeByte_109 rfl (lv_at hl 3 rfl) ?_
                refine kV (rV (As := [.int (zdx xv5 md5), .int mx5]) (rest := []) ⟨hx, hb, hml, hown, hts⟩ (c_X3_learn l D cI cL cM _ a (x_pr v) (zdx xv5 md5) mx5 (by rw [hpy]; exact hn6) (by rw [hpy]; exact hnd) (by rw [hpy]; exact hph) (by rw [hpy]; exact hpl)) (cwV 2 hts gX4_decodeByte_X3_learn rfl rfl rfl (by decide +kernel) ⟨(Nat.le_of_ble_eq_true rfl), (Nat.le_of_ble_eq_true rfl)⟩) hE hP hD [7, 8, 9, 10, 11, 12, 13, 14, 15, 16, 17, 18, 19, 20, 21, 22, 23, 24, 25, 26, 27, 28, 29, 30, 31, 32, 33] segnd (mxW_prC cI cL cM a _) rfl rfl rfl hl.1 rfl (Nat.le_of_ble_eq_true rfl) dX4_decodeByte_110 ⟨(Nat.le_of_ble_eq_true rfl), (Nat.le_of_ble_eq_true rfl)⟩) hP hD hS hA (is := [7, 8, 9, 10, 11, 12, 13, 14, 15, 16, 17, 18, 19, 20, 21, 22, 23, 24, 25, 26, 27, 28, 29, 30, 31, 32, 33]) (mxW_prC cI cL cM a _) (prW_fst cI cL cM a _ _) (fun H locs hP hD hS => ?_)
                rw [mxW_pr] at hP hD
                have hP : va_P D vwCl (mxW cI cL cM a (xs_pr v (k_ln (zdx xv5 md5) mx5 (x_pr v)))) H := hP
                have hD : va_D A (mxW cI cL cM a (xs_pr v (k_ln (zdx xv5 md5) mx5 (x_pr v)))) := hD
                refine lv_iconst (v := 2) hx hb dX4_decodeByte_113 (by decide) ?_
                refine lv_iload_n hx hb dX4_decodeByte_114 rfl (lv_at hl 5 rfl) ?_
                refine lv_imul hx hb dX4_decodeByte_115 ?_
                refine lv_iload hx hb dX4_decodeByte_116 (lv_at hl 1 rfl) ?_
                refine lv_if_eq (tgt := 125) hx hb dX4_decodeByte_118 (by decide) (fun cv => ?_) (fun cv => ?_)
                · replace cv : (zdx xv5 md5) = (0 : Int32) := cv
                  refine lv_iconst (v := 0) hx hb dX4_decodeByte_125 (by decide) ?_
                  refine lv_iadd hx hb dX4_decodeByte_126 ?_
                  refine lv_istore_n (lv' := [(1, .int ((2 * vl) + 0)), (7, .int (nI (4 - f9))), (6, .int (zdx xv5 md5)), (4, .long md5), (3, .int mx5), (2, .int (nI k9)), (0, .ref (a 0))]) hx hb dX4_decodeByte_127 rfl hl (by decide) rfl (fun ls hl => ?_)
                  refine lv_iinc (v := nI (k9 + 1)) (lv' := [(2, .int (nI (k9 + 1))), (1, .int ((2 * vl) + 0)), (7, .int (nI (4 - f9))), (6, .int (zdx xv5 md5)), (4, .long md5), (3, .int mx5), (0, .ref (a 0))]) hx hb dX4_decodeByte_128 hl (k := 5) rfl (nI_1 _) (by decide) rfl (fun ls hl => ?_)
                  refine lv_goto (tgt := 4) hx hb dX4_decodeByte_131 (by decide) ?_
                  exact ih_lpb (k9 + 1) (xs_pr v (k_ln (zdx xv5 md5) mx5 (x_pr v))) ((2 * vl) + 0) (by omega) (by show (x_db (x_dby x k9).1, 2 * (x_dby x k9).2 + (if x_zd (x_dby x k9).1 = 0 then (0 : Int32) else 1)) = _; rw [hy]; dsimp only; unfold x_db; rw [hzd, ← hmx5, hqp2, hq0v, if_pos cv]) (by rw [x_pr_pr, hpy, hmx5]; exact hJ.2 _ _ hyJ) (by rw [x_en_pr]; exact hve.trans (hqe.trans hye)) (by omega) _ _ hP hD hS ls (lv_sub hl [0, 1, 6] rfl)
                · replace cv : ¬ (zdx xv5 md5) = (0 : Int32) := cv
                  refine lv_iconst (v := 1) hx hb dX4_decodeByte_121 (by decide) ?_
                  refine lv_goto (tgt := 126) hx hb dX4_decodeByte_122 (by decide) ?_
                  refine lv_iadd hx hb dX4_decodeByte_126 ?_
                  refine lv_istore_n (lv' := [(1, .int ((2 * vl) + 1)), (7, .int (nI (4 - f9))), (6, .int (zdx xv5 md5)), (4, .long md5), (3, .int mx5), (2, .int (nI k9)), (0, .ref (a 0))]) hx hb dX4_decodeByte_127 rfl hl (by decide) rfl (fun ls hl => ?_)
                  refine lv_iinc (v := nI (k9 + 1)) (lv' := [(2, .int (nI (k9 + 1))), (1, .int ((2 * vl) + 1)), (7, .int (nI (4 - f9))), (6, .int (zdx xv5 md5)), (4, .long md5), (3, .int mx5), (0, .ref (a 0))]) hx hb dX4_decodeByte_128 hl (k := 5) rfl (nI_1 _) (by decide) rfl (fun ls hl => ?_)
                  refine lv_goto (tgt := 4) hx hb dX4_decodeByte_131 (by decide) ?_
                  exact ih_lpb (k9 + 1) (xs_pr v (k_ln (zdx xv5 md5) mx5 (x_pr v))) ((2 * vl) + 1) (by omega) (by show (x_db (x_dby x k9).1, 2 * (x_dby x k9).2 + (if x_zd (x_dby x k9).1 = 0 then (0 : Int32) else 1)) = _; rw [hy]; dsimp only; unfold x_db; rw [hzd, ← hmx5, hqp2, hq0v, if_neg cv]) (by rw [x_pr_pr, hpy, hmx5]; exact hJ.2 _ _ hyJ) (by rw [x_en_pr]; exact hve.trans (hqe.trans hye)) (by omega) _ _ hP hD hS ls (lv_sub hl [0, 1, 6] rfl)
              · replace c4 : ¬ (4 : Int32) ≤ (nI (4 - f9)) := c4
                have hf1 : 1 ≤ f9 := by have h8 := nge_N (a := 4) (by omega) (by omega) c4; omega
                refine lv_aload_n hx hb dX4_decodeByte_68 rfl (lv_at hl 6 rfl) ?_
                refine va_get (D := D) (ci := 4) (v := .ref (a 10)) (C := RX4) (T := TX4) (N := 5) hx hb hts (fun _ h => List.mem_cons_of_mem _ (List.mem_append_left _ (List.mem_append_left _ (List.mem_append_left _ (List.mem_append_left _ (List.mem_append_right _ h)))))) hown hK hP 0 rfl rfl 4 (by decide) (hts _ (List.mem_of_getElem? (i := 2) rfl)) (fun _ h9 => h9) rfl dX4_decodeByte_69 ?_
                refine kI (rV (As := []) (rest := []) ⟨hx, hb, hml, hown, hts⟩ (c_X1_isSettled l D cI cL cM _ (a 10) (x_iv v)  ) (cwV 0 hts gX4_decodeByte_X1_isSettled rfl rfl rfl (by decide +kernel) ⟨(Nat.le_of_ble_eq_true rfl), (Nat.le_of_ble_eq_true rfl)⟩) hE hP hD [34] rfl rfl rfl rfl rfl hl.1 rfl (Nat.le_of_ble_eq_true rfl) dX4_decodeByte_72 ⟨(Nat.le_of_ble_eq_true rfl), (Nat.le_of_ble_eq_true rfl)⟩) hP hD hS hA (is := [34]) rfl rfl (fun H locs hP hD hS => ?_)
                rw [mxW_iv, xs_iv_self] at hP hD
                have hP : va_P D vwCl (mxW cI cL cM a v) H := hP
                have hD : va_D A (mxW cI cL cM a v) := hD
                refine lv_if_eq (tgt := 103) hx hb dX4_decodeByte_75 (by decide) (fun cw => ?_) (fun cw => ?_)
                · replace cw : (v_set (x_iv v)) = (0 : Int32) := cw
                  have hq0v : x_dwh 4 q0 = v := by rw [← hvw]; exact x_dwh_stop cw f9
                  have hpy : x_pr v = x_pr y := hvp.trans hqp
                  refine lv_aload_n hx hb dX4_decodeByte_103 rfl (lv_at hl 6 rfl) ?_
                  refine va_get (D := D) (ci := 4) (v := .ref (a 7)) (C := RX4) (T := TX4) (N := 5) hx hb hts (fun _ h => List.mem_cons_of_mem _ (List.mem_append_left _ (List.mem_append_left _ (List.mem_append_left _ (List.mem_append_left _ (List.mem_append_right _ h)))))) hown hK hP 0 rfl rfl 3 (by decide) (hts _ (List.mem_of_getElem? (i := 1) rfl)) (fun _ h9 => h9) rfl dX4_decodeByte_104 ?_
                  refine lv_iload hx hb dX4_decodeByte_107 (lv_at hl 1 rfl) ?_
                  refine lv_iload_n hx hb dX4_decodeByte_109 rfl (lv_at hl 3 rfl) ?_
                  refine kV (rV (As := [.int (zdx xv5 md5), .int mx5]) (rest := []) ⟨hx, hb, hml, hown, hts⟩ (c_X3_learn l D cI cL cM _ a (x_pr v) (zdx xv5 md5) mx5 (by rw [hpy]; exact hn6) (by rw [hpy]; exact hnd) (by rw [hpy]; exact hph) (by rw [hpy]; exact hpl)) (cwV 2 hts gX4_decodeByte_X3_learn rfl rfl rfl (by decide +kernel) ⟨(Nat.le_of_ble_eq_true rfl), (Nat.le_of_ble_eq_true rfl)⟩) hE hP hD [7, 8, 9, 10, 11, 12, 13, 14, 15, 16, 17, 18, 19, 20, 21, 22, 23, 24, 25, 26, 27, 28, 29, 30, 31, 32, 33] segnd (mxW_prC cI cL cM a _) rfl rfl rfl hl.1 rfl (Nat.le_of_ble_eq_true rfl) dX4_decodeByte_110 ⟨(Nat.le_of_ble_eq_true rfl), (Nat.le_of_ble_eq_true rfl)⟩) hP hD hS hA (is := [7, 8, 9, 10, 11, 12, 13, 14, 15, 16, 17, 18, 19, 20, 21, 22, 23, 24, 25, 26, 27, 28, 29, 30, 31, 32, 33]) (mxW_prC cI cL cM a _) (prW_fst cI cL cM a _ _) (fun H locs hP hD hS => ?_)
                  rw [mxW_pr] at hP hD
                  have hP : va_P D vwCl (mxW cI cL cM a (xs_pr v (k_ln (zdx xv5 md5) mx5 (x_pr v)))) H := hP
                  have hD : va_D A (mxW cI cL cM a (xs_pr v (k_ln (zdx xv5 md5) mx5 (x_pr v)))) := hD
                  refine lv_iconst (v := 2) hx hb dX4_decodeByte_113 (by decide) ?_
                  refine lv_iload_n hx hb dX4_decodeByte_114 rfl (lv_at hl 5 rfl) ?_
                  refine lv_imul hx hb dX4_decodeByte_115 ?_
                  refine lv_iload hx hb dX4_decodeByte_116 (lv_at hl 1 rfl) ?_
                  refine lv_if_eq (tgt := 125) hx hb dX4_decodeByte_118 (by decide) (fun cv => ?_) (fun cv => ?_)
                  · replace cv : (zdx xv5 md5) = (0 : Int32) := cv
                    refine lv_iconst (v := 0) hx hb dX4_decodeByte_125 (by decide) ?_
                    refine lv_iadd hx hb dX4_decodeByte_126 ?_
                    refine lv_istore_n (lv' := [(1, .int ((2 * vl) + 0)), (7, .int (nI (4 - f9))), (6, .int (zdx xv5 md5)), (4, .long md5), (3, .int mx5), (2, .int (nI k9)), (0, .ref (a 0))]) hx hb dX4_decodeByte_127 rfl hl (by decide) rfl (fun ls hl => ?_)
                    refine lv_iinc (v := nI (k9 + 1)) (lv' := [(2, .int (nI (k9 + 1))), (1, .int ((2 * vl) + 0)), (7, .int (nI (4 - f9))), (6, .int (zdx xv5 md5)), (4, .long md5), (3, .int mx5), (0, .ref (a 0))]) hx hb dX4_decodeByte_128 hl (k := 5) rfl (nI_1 _) (by decide) rfl (fun ls hl => ?_)
                    refine lv_goto (tgt := 4) hx hb dX4_decodeByte_131 (by decide) ?_
                    exact ih_lpb (k9 + 1) (xs_pr v (k_ln (zdx xv5 md5) mx5 (x_pr v))) ((2 * vl) + 0) (by omega) (by show (x_db (x_dby x k9).1, 2 * (x_dby x k9).2 + (if x_zd (x_dby x k9).1 = 0 then (0 : Int32) else 1)) = _; rw [hy]; dsimp only; unfold x_db; rw [hzd, ← hmx5, hqp2, hq0v, if_pos cv]) (by rw [x_pr_pr, hpy, hmx5]; exact hJ.2 _ _ hyJ) (by rw [x_en_pr]; exact hve.trans (hqe.trans hye)) (by omega) _ _ hP hD hS ls (lv_sub hl [0, 1, 6] rfl)
                  · replace cv : ¬ (zdx xv5 md5) = (0 : Int32) := cv
                    refine lv_iconst (v := 1) hx hb dX4_decodeByte_121 (by decide) ?_
                    refine lv_goto (tgt := 126) hx hb dX4_decodeByte_122 (by decide) ?_
                    refine lv_iadd hx hb dX4_decodeByte_126 ?_
                    refine lv_istore_n (lv' := [(1, .int ((2 * vl) + 1)), (7, .int (nI (4 - f9))), (6, .int (zdx xv5 md5)), (4, .long md5), (3, .int mx5), (2, .int (nI k9)), (0, .ref (a 0))]) hx hb dX4_decodeByte_127 rfl hl (by decide) rfl (fun ls hl => ?_)
                    refine lv_iinc (v := nI (k9 + 1)) (lv' := [(2, .int (nI (k9 + 1))), (1, .int ((2 * vl) + 1)), (7, .int (nI (4 - f9))), (6, .int (zdx xv5 md5)), (4, .long md5), (3, .int mx5), (0, .ref (a 0))]) hx hb dX4_decodeByte_128 hl (k := 5) rfl (nI_1 _) (by decide) rfl (fun ls hl => ?_)
                    refine lv_goto (tgt := 4) hx hb dX4_decodeByte_131 (by decide) ?_
                    exact ih_lpb (k9 + 1) (xs_pr v (k_ln (zdx xv5 md5) mx5 (x_pr v))) ((2 * vl) + 1) (by omega) (by show (x_db (x_dby x k9).1, 2 * (x_dby x k9).2 + (if x_zd (x_dby x k9).1 = 0 then (0 : Int32) else 1)) = _; rw [hy]; dsimp only; unfold x_db; rw [hzd, ← hmx5, hqp2, hq0v, if_neg cv]) (by rw [x_pr_pr, hpy, hmx5]; exact hJ.2 _ _ hyJ) (by rw [x_en_pr]; exact hve.trans (hqe.trans hye)) (by omega) _ _ hP hD hS ls (lv_sub hl [0, 1, 6] rfl)
                · replace cw : ¬ (v_set (x_iv v)) = (0 : Int32) := cw
                  refine lv_aload_n hx hb dX4_decodeByte_78 rfl (lv_at hl 6 rfl) ?_
                  refine va_get (D := D) (ci := 4) (v := .ref (a 10)) (C := RX4) (T := TX4) (N := 5) hx hb hts (fun _ h => List.mem_cons_of_mem _ (List.mem_append_left _ (List.mem_append_left _ (List.mem_append_left _ (List.mem_append_left _ (List.mem_append_right _ h)))))) hown hK hP 0 rfl rfl 4 (by decide) (hts _ (List.mem_of_getElem? (i := 2) rfl)) (fun _ h9 => h9) rfl dX4_decodeByte_79 ?_
                  refine kI (rV (As := []) (rest := []) ⟨hx, hb, hml, hown, hts⟩ (c_X1_shift l D cI cL cM _ (a 10) (x_iv v)  ) (cwV 0 hts gX4_decodeByte_X1_shift rfl rfl rfl (by decide +kernel) ⟨(Nat.le_of_ble_eq_true rfl), (Nat.le_of_ble_eq_true rfl)⟩) hE hP hD [34] rfl rfl rfl rfl rfl hl.1 rfl (Nat.le_of_ble_eq_true rfl) dX4_decodeByte_82 ⟨(Nat.le_of_ble_eq_true rfl), (Nat.le_of_ble_eq_true rfl)⟩) hP hD hS hA (is := [34]) rfl rfl (fun H locs hP hD hS => ?_)
                  rw [mxW_iv] at hP hD
                  have hP : va_P D vwCl (mxW cI cL cM a (xs_iv v (v_shf (x_iv v)))) H := hP
                  have hD : va_D A (mxW cI cL cM a (xs_iv v (v_shf (x_iv v)))) := hD
                  obtain ⟨s1, hs1⟩ : ∃ y9 : Mx, y9 = (xs_iv v (v_shf (x_iv v))) := ⟨_, rfl⟩
                  rw [← hs1] at hP hD
                  have hse : x_en s1 = x_en v := by rw [hs1, x_en_iv]
                  refine lv_pop hx hb dX4_decodeByte_85 rfl ?_
                  refine lv_aload_n hx hb dX4_decodeByte_86 rfl (lv_at hl 6 rfl) ?_
                  refine va_get (D := D) (ci := 4) (v := .ref (a 10)) (C := RX4) (T := TX4) (N := 5) hx hb hts (fun _ h => List.mem_cons_of_mem _ (List.mem_append_left _ (List.mem_append_left _ (List.mem_append_left _ (List.mem_append_left _ (List.mem_append_right _ h)))))) hown hK hP 0 rfl rfl 4 (by decide) (hts _ (List.mem_of_getElem? (i := 2) rfl)) (fun _ h9 => h9) rfl dX4_decodeByte_87 ?_
                  refine lv_aload_n hx hb dX4_decodeByte_90 rfl (lv_at hl 6 rfl) ?_
                  refine va_get (D := D) (ci := 4) (v := .ref (a 3)) (C := RX4) (T := TX4) (N := 5) hx hb hts (fun _ h => List.mem_cons_of_mem _ (List.mem_append_left _ (List.mem_append_left _ (List.mem_append_left _ (List.mem_append_left _ (List.mem_append_right _ h)))))) hown hK hP 0 rfl rfl 1 (by decide) (hts _ (List.mem_of_getElem? (i := 4) rfl)) (fun _ h9 => h9) rfl dX4_decodeByte_91 ?_
                  refine kV (rV (As := [.ref (a 3)]) (rest := []) ⟨hx, hb, hml, hown, hts⟩ (c_X1_pull l D cI cL cM _ (a 10) (a 3) (a 4) 2564 ((x_iv s1), (x_en s1)) (show q_c (x_en s1) ≤ 2564 by rw [hse, hve, hqe, hye]; exact hec) (Nat.le_of_ble_eq_true rfl)) (cwV 1 hts gX4_decodeByte_X1_pull rfl rfl rfl (by decide +kernel) ⟨(Nat.le_of_ble_eq_true rfl), (Nat.le_of_ble_eq_true rfl)⟩) hE hP hD [34, 3, 4] rfl rfl rfl rfl rfl hl.1 rfl (Nat.le_of_ble_eq_true rfl) dX4_decodeByte_94 ⟨(Nat.le_of_ble_eq_true rfl), (Nat.le_of_ble_eq_true rfl)⟩) hP hD hS hA (is := [34, 3, 4]) rfl rfl (fun H locs hP hD hS => ?_)
                  rw [mxW_pull] at hP hD
                  have hP : va_P D vwCl (mxW cI cL cM a (xs_iv s1 (v_pul (x_iv s1) (x_en s1)))) H := hP
                  have hD : va_D A (mxW cI cL cM a (xs_iv s1 (v_pul (x_iv s1) (x_en s1)))) := hD
                  refine lv_iinc (v := nI (4 - (f9 - 1))) (lv' := [(7, .int (nI (4 - (f9 - 1)))), (6, .int (zdx xv5 md5)), (4, .long md5), (3, .int mx5), (2, .int (nI k9)), (1, .int vl), (0, .ref (a 0))]) hx hb dX4_decodeByte_97 hl (k := 0) rfl (by rw [show 4 - (f9 - 1) = 4 - f9 + 1 from by omega]; exact nI_1 _) (by decide) rfl (fun ls hl => ?_)
                  refine lv_goto (tgt := 62) hx hb dX4_decodeByte_100 (by decide) ?_
                  have e9 : (xs_iv s1 (v_pul (x_iv s1) (x_en s1))) = x_dst v := by rw [hs1]; rfl
                  exact ih_lpw (f9 - 1) (xs_iv s1 (v_pul (x_iv s1) (x_en s1))) (by omega) (by rw [e9]; exact (x_dwh_go cw hf1).trans hvw) (by rw [e9]; exact (x_dst_pr v).trans hvp) (by rw [e9]; exact (x_dst_en v).trans hve) (by omega) _ _ hP hD hS ls (lv_sub hl [0, 1, 2, 3, 4, 5, 6] rfl)
          exact lpw _ 4 q0 (Nat.le_refl _) (rfl) (rfl) (rfl) (Nat.lt_succ_self _) _ _ hP hD hS ls (lv_sub hl [0, 1, 2, 3, 4, 5, 6] rfl)
        · replace cz : ¬ (0 : Int32) < (lg_cmp xv5 md5) := cz
          refine lv_iconst (v := 1) hx hb dX4_decodeByte_41 (by decide) ?_
          refine lv_goto (tgt := 46) hx hb dX4_decodeByte_42 (by decide) ?_
          refine topI (y := (zdx xv5 md5)) (by unfold zdx; rw [if_neg cz]) ?_
          refine lv_istore (lv' := [(6, .int (zdx xv5 md5)), (4, .long md5), (3, .int mx5), (2, .int (nI k9)), (1, .int vl), (0, .ref (a 0))]) hx hb dX4_decodeByte_46 hl (by decide) rfl (fun ls hl => ?_)
          refine lv_aload_n hx hb dX4_decodeByte_48 rfl (lv_at hl 5 rfl) ?_
          refine va_get (D := D) (ci := 4) (v := .ref (a 10)) (C := RX4) (T := TX4) (N := 5) hx hb hts (fun _ h => List.mem_cons_of_mem _ (List.mem_append_left _ (List.mem_append_left _ (List.mem_append_left _ (List.mem_append_left _ (List.mem_append_right _ h)))))) hown hK hP 0 rfl rfl 4 (by decide) (hts _ (List.mem_of_getElem? (i := 2) rfl)) (fun _ h9 => h9) rfl dX4_decodeByte_49 ?_
          refine lv_iload hx hb dX4_decodeByte_52 (lv_at hl 0 rfl) ?_
          refine lv_lload hx hb dX4_decodeByte_54 (lv_at hl 1 rfl) ?_
          refine kV (rV (As := [.int (zdx xv5 md5), .long md5]) (rest := []) ⟨hx, hb, hml, hown, hts⟩ (c_X1_narrow l D cI cL cM _ (a 10) (x_iv y) (zdx xv5 md5) md5 ) (cwV 2 hts gX4_decodeByte_X1_narrow rfl rfl rfl (by decide +kernel) ⟨(Nat.le_of_ble_eq_true rfl), (Nat.le_of_ble_eq_true rfl)⟩) hE hP hD [34] rfl rfl rfl rfl rfl hl.1 rfl (Nat.le_of_ble_eq_true rfl) dX4_decodeByte_56 ⟨(Nat.le_of_ble_eq_true rfl), (Nat.le_of_ble_eq_true rfl)⟩) hP hD hS hA (is := [34]) rfl rfl (fun H locs hP hD hS => ?_)
          rw [mxW_iv] at hP hD
          have hP : va_P D vwCl (mxW cI cL cM a (xs_iv y (v_nar (x_iv y) (zdx xv5 md5) md5))) H := hP
          have hD : va_D A (mxW cI cL cM a (xs_iv y (v_nar (x_iv y) (zdx xv5 md5) md5))) := hD
          obtain ⟨q0, hq0⟩ : ∃ y9 : Mx, y9 = (xs_iv y (v_nar (x_iv y) (zdx xv5 md5) md5)) := ⟨_, rfl⟩
          rw [← hq0] at hP hD
          have hqp : x_pr q0 = x_pr y := by rw [hq0, x_pr_iv]
          have hqe : x_en q0 = x_en y := by rw [hq0, x_en_iv]
          have hzd : x_zd y = (zdx xv5 md5) := by rw [hzd, hxv5]
          have hqp2 : x_prt (zdx xv5 md5) y = q0 := by rw [hq0]; unfold x_prt; rw [← hmx5, ← hmd5]
          refine lv_iconst (v := 0) hx hb dX4_decodeByte_59 (by decide) ?_
          refine lv_istore (lv' := [(7, .int 0), (6, .int (zdx xv5 md5)), (4, .long md5), (3, .int mx5), (2, .int (nI k9)), (1, .int vl), (0, .ref (a 0))]) hx hb dX4_decodeByte_60 hl (by decide) rfl (fun ls hl => ?_)
          have lpw : ∀ (n9 : Nat) (f9 : Nat) (v : Mx) (hf9 : f9 ≤ 4) (hvw : x_dwh f9 v = x_dwh 4 q0) (hvp : x_pr v = x_pr q0) (hve : x_en v = x_en q0), f9 < n9 → ∀ (H : Heap) (locs : List Loc), va_P D vwCl (mxW cI cL cM a v) H → va_D A (mxW cI cL cM a v) → va_S A s.heap H locs → ∀ (ls : Array Slot), lv_has ls 8 [(7, .int (nI (4 - f9))), (6, .int (zdx xv5 md5)), (4, .long md5), (3, .int mx5), (2, .int (nI k9)), (1, .int vl), (0, .ref (a 0))] → W p l e (headSpec wsX4_decodeByte ({ frames := 5, cells := 0, slots := 0, locals := 110 })).room s m (([.ref (a 0)] : List Value).toArray) below meth c H locs 0 0 (MQ below (va_Qi (fun x9 (_ : Unit) => x9 = ((x_dby x 8).2)) (fun _ t => hq D A (mxW cI cL cM a ((x_dby x 8).1)) t) A) (([.ref (a 0)] : List Value).toArray) s 0 0 A) (F0 m 62 ls []) := by
            intro n9
            induction n9 with
            | zero => intro f9 v hf9 hvw hvp hve hm9; exact absurd hm9 (Nat.not_lt_zero _)
            | succ n9 ih_lpw =>
              intro f9 v hf9 hvw hvp hve hm9 H locs hP hD hS ls hl
              refine lv_iload hx hb dX4_decodeByte_62 (lv_at hl 0 rfl) ?_
              refine lv_iconst (v := 4) hx hb dX4_decodeByte_64 (by decide) ?_
              refine lv_icmp_ge (tgt := 103) hx hb dX4_decodeByte_65 (by decide) (fun c4 => ?_) (fun c4 => ?_)
              · replace c4 : (4 : Int32) ≤ (nI (4 - f9)) := c4
                have hf0 : f9 = 0 := by have h8 := ge_N (a := 4) (by omega) (by omega) c4; omega
                have hq0v : x_dwh 4 q0 = v := by rw [← hvw, hf0]; rfl
                have hpy : x_pr v = x_pr y := hvp.trans hqp
                refine lv_aload_n hx hb dX4_decodeByte_103 rfl (lv_at hl 6 rfl) ?_
                refine va_get (D := D) (ci := 4) (v := .ref (a 7)) (C := RX4) (T := TX4) (N := 5) hx hb hts (fun _ h => List.mem_cons_of_mem _ (List.mem_append_left _ (List.mem_append_left _ (List.mem_append_left _ (List.mem_append_left _ (List.mem_append_right _ h)))))) hown hK hP 0 rfl rfl 3 (by decide) (hts _ (List.mem_of_getElem? (i := 1) rfl)) (fun _ h9 => h9) rfl dX4_decodeByte_104 ?_
                refine lv_iload hx hb dX4_decodeByte_107 (lv_at hl 1 rfl) ?_
                refine lv_iload_n hx hb dX4_decodeByte_109 rfl (lv_at hl 3 rfl) ?_
                refine kV (rV (As := [.int (zdx xv5 md5), .int mx5]) (rest := []) ⟨hx, hb, hml, hown, hts⟩ (c_X3_learn l D cI cL cM _ a (x_pr v) (zdx xv5 md5) mx5 (by rw [hpy]; exact hn6) (by rw [hpy]; exact hnd) (by rw [hpy]; exact hph) (by rw [hpy]; exact hpl)) (cwV 2 hts gX4_decodeByte_X3_learn rfl rfl rfl (by decide +kernel) ⟨(Nat.le_of_ble_eq_true rfl), (Nat.le_of_ble_eq_true rfl)⟩) hE hP hD [7, 8, 9, 10, 11, 12, 13, 14, 15, 16, 17, 18, 19, 20, 21, 22, 23, 24, 25, 26, 27, 28, 29, 30, 31, 32, 33] segnd (mxW_prC cI cL cM a _) rfl rfl rfl hl.1 rfl (Nat.le_of_ble_eq_true rfl) dX4_decodeByte_110 ⟨(Nat.le_of_ble_eq_true rfl), (Nat.le_of_ble_eq_true rfl)⟩) hP hD hS hA (is := [7, 8, 9, 10, 11, 12, 13, 14, 15, 16, 17, 18, 19, 20, 21, 22, 23, 24, 25, 26, 27, 28, 29, 30, 31, 32, 33]) (mxW_prC cI cL cM a _) (prW_fst cI cL cM a _ _) (fun H locs hP hD hS => ?_)
                rw [mxW_pr] at hP hD
                have hP : va_P D vwCl (mxW cI cL cM a (xs_pr v (k_ln (zdx xv5 md5) mx5 (x_pr v)))) H := hP
                have hD : va_D A (mxW cI cL cM a (xs_pr v (k_ln (zdx xv5 md5) mx5 (x_pr v)))) := hD
                refine lv_iconst (v := 2) hx hb dX4_decodeByte_113 (by decide) ?_
                refine lv_iload_n hx hb dX4_decodeByte_114 rfl (lv_at hl 5 rfl) ?_
                refine lv_imul hx hb dX4_decodeByte_115 ?_
                refine lv_iload hx hb dX4_decodeByte_116 (lv_at hl 1 rfl) ?_
                refine lv_if_eq (tgt := 125) hx hb dX4_decodeByte_118 (by decide) (fun cv => ?_) (fun cv => ?_)
                · replace cv : (zdx xv5 md5) = (0 : Int32) := cv
                  refine lv_iconst (v := 0) hx hb dX4_decodeByte_125 (by decide) ?_
                  refine lv_iadd hx hb dX4_decodeByte_126 ?_
                  refine lv_istore_n (lv' := [(1, .int ((2 * vl) + 0)), (7, .int (nI (4 - f9))), (6, .int (zdx xv5 md5)), (4, .long md5), (3, .int mx5), (2, .int (nI k9)), (0, .ref (a 0))]) hx hb dX4_decodeByte_127 rfl hl (by decide) rfl (fun ls hl => ?_)
                  refine lv_iinc (v := nI (k9 + 1)) (lv' := [(2, .int (nI (k9 + 1))), (1, .int ((2 * vl) + 0)), (7, .int (nI (4 - f9))), (6, .int (zdx xv5 md5)), (4, .long md5), (3, .int mx5), (0, .ref (a 0))]) hx hb dX4_decodeByte_128 hl (k := 5) rfl (nI_1 _) (by decide) rfl (fun ls hl => ?_)
                  refine lv_goto (tgt := 4) hx hb dX4_decodeByte_131 (by decide) ?_
                  exact ih_lpb (k9 + 1) (xs_pr v (k_ln (zdx xv5 md5) mx5 (x_pr v))) ((2 * vl) + 0) (by omega) (by show (x_db (x_dby x k9).1, 2 * (x_dby x k9).2 + (if x_zd (x_dby x k9).1 = 0 then (0 : Int32) else 1)) = _; rw [hy]; dsimp only; unfold x_db; rw [hzd, ← hmx5, hqp2, hq0v, if_pos cv]) (by rw [x_pr_pr, hpy, hmx5]; exact hJ.2 _ _ hyJ) (by rw [x_en_pr]; exact hve.trans (hqe.trans hye)) (by omega) _ _ hP hD hS ls (lv_sub hl [0, 1, 6] rfl)
                · replace cv : ¬ (zdx xv5 md5) = (0 : Int32) := cv
                  refine lv_iconst (v := 1) hx hb dX4_decodeByte_121 (by decide) ?_
                  refine lv_goto (tgt := 126) hx hb dX4_decodeByte_122 (by decide) ?_
                  refine lv_iadd hx hb dX4_decodeByte_126 ?_
                  refine lv_istore_n (lv' := [(1, .int ((2 * vl) + 1)), (7, .int (nI (4 - f9))), (6, .int (zdx xv5 md5)), (4, .long md5), (3, .int mx5), (2, .int (nI k9)), (0, .ref (a 0))]) hx hb dX4_decodeByte_127 rfl hl (by decide) rfl (fun ls hl => ?_)
                  refine lv_iinc (v := nI (k9 + 1)) (lv' := [(2, .int (nI (k9 + 1))), (1, .int ((2 * vl) + 1)), (7, .int (nI (4 - f9))), (6, .int (zdx xv5 md5)), (4, .long md5), (3, .int mx5), (0, .ref (a 0))]) hx hb dX4_decodeByte_128 hl (k := 5) rfl (nI_1 _) (by decide) rfl (fun ls hl => ?_)
                  refine lv_goto (tgt := 4) hx hb dX4_decodeByte_131 (by decide) ?_
                  exact ih_lpb (k9 + 1) (xs_pr v (k_ln (zdx xv5 md5) mx5 (x_pr v))) ((2 * vl) + 1) (by omega) (by show (x_db (x_dby x k9).1, 2 * (x_dby x k9).2 + (if x_zd (x_dby x k9).1 = 0 then (0 : Int32) else 1)) = _; rw [hy]; dsimp only; unfold x_db; rw [hzd, ← hmx5, hqp2, hq0v, if_neg cv]) (by rw [x_pr_pr, hpy, hmx5]; exact hJ.2 _ _ hyJ) (by rw [x_en_pr]; exact hve.trans (hqe.trans hye)) (by omega) _ _ hP hD hS ls (lv_sub hl [0, 1, 6] rfl)
              · replace c4 : ¬ (4 : Int32) ≤ (nI (4 - f9)) := c4
                have hf1 : 1 ≤ f9 := by have h8 := nge_N (a := 4) (by omega) (by omega) c4; omega
                refine lv_aload_n hx hb dX4_decodeByte_68 rfl (lv_at hl 6 rfl) ?_
                refine va_get (D := D) (ci := 4) (v := .ref (a 10)) (C := RX4) (T := TX4) (N := 5) hx hb hts (fun _ h => List.mem_cons_of_mem _ (List.mem_append_left _ (List.mem_append_left _ (List.mem_append_left _ (List.mem_append_left _ (List.mem_append_right _ h)))))) hown hK hP 0 rfl rfl 4 (by decide) (hts _ (List.mem_of_getElem? (i := 2) rfl)) (fun _ h9 => h9) rfl dX4_decodeByte_69 ?_
                refine kI (rV (As := []) (rest := []) ⟨hx, hb, hml, hown, hts⟩ (c_X1_isSettled l D cI cL cM _ (a 10) (x_iv v)  ) (cwV 0 hts gX4_decodeByte_X1_isSettled rfl rfl rfl (by decide +kernel) ⟨(Nat.le_of_ble_eq_true rfl), (Nat.le_of_ble_eq_true rfl)⟩) hE hP hD [34] rfl rfl rfl rfl rfl hl.1 rfl (Nat.le_of_ble_eq_true rfl) dX4_decodeByte_72 ⟨(Nat.le_of_ble_eq_true rfl), (Nat.le_of_ble_eq_true rfl)⟩) hP hD hS hA (is := [34]) rfl rfl (fun H locs hP hD hS => ?_)
                rw [mxW_iv, xs_iv_self] at hP hD
                have hP : va_P D vwCl (mxW cI cL cM a v) H := hP
                have hD : va_D A (mxW cI cL cM a v) := hD
                refine lv_if_eq (tgt := 103) hx hb dX4_decodeByte_75 (by decide) (fun cw => ?_) (fun cw => ?_)
                · replace cw : (v_set (x_iv v)) = (0 : Int32) := cw
                  have hq0v : x_dwh 4 q0 = v := by rw [← hvw]; exact x_dwh_stop cw f9
                  have hpy : x_pr v = x_pr y := hvp.trans hqp
                  refine lv_aload_n hx hb dX4_decodeByte_103 rfl (lv_at hl 6 rfl) ?_
                  refine va_get (D := D) (ci := 4) (v := .ref (a 7)) (C := RX4) (T := TX4) (N := 5) hx hb hts (fun _ h => List.mem_cons_of_mem _ (List.mem_append_left _ (List.mem_append_left _ (List.mem_append_left _ (List.mem_append_left _ (List.mem_append_right _ h)))))) hown hK hP 0 rfl rfl 3 (by decide) (hts _ (List.mem_of_getElem? (i := 1) rfl)) (fun _ h9 => h9) rfl dX4_decodeByte_104 ?_
                  refine lv_iload hx hb dX4_decodeByte_107 (lv_at hl 1 rfl) ?_
                  refine lv_iload_n hx hb dX4_decodeByte_109 rfl (lv_at hl 3 rfl) ?_
                  refine kV (rV (As := [.int (zdx xv5 md5), .int mx5]) (rest := []) ⟨hx, hb, hml, hown, hts⟩ (c_X3_learn l D cI cL cM _ a (x_pr v) (zdx xv5 md5) mx5 (by rw [hpy]; exact hn6) (by rw [hpy]; exact hnd) (by rw [hpy]; exact hph) (by rw [hpy]; exact hpl)) (cwV 2 hts gX4_decodeByte_X3_learn rfl rfl rfl (by decide +kernel) ⟨(Nat.le_of_ble_eq_true rfl), (Nat.le_of_ble_eq_true rfl)⟩) hE hP hD [7, 8, 9, 10, 11, 12, 13, 14, 15, 16, 17, 18, 19, 20, 21, 22, 23, 24, 25, 26, 27, 28, 29, 30, 31, 32, 33] segnd (mxW_prC cI cL cM a _) rfl rfl rfl hl.1 rfl (Nat.le_of_ble_eq_true rfl) dX4_decodeByte_110 ⟨(Nat.le_of_ble_eq_true rfl), (Nat.le_of_ble_eq_true rfl)⟩) hP hD hS hA (is := [7, 8, 9, 10, 11, 12, 13, 14, 15, 16, 17, 18, 19, 20, 21, 22, 23, 24, 25, 26, 27, 28, 29, 30, 31, 32, 33]) (mxW_prC cI cL cM a _) (prW_fst cI cL cM a _ _) (fun H locs hP hD hS => ?_)
                  rw [mxW_pr] at hP hD
                  have hP : va_P D vwCl (mxW cI cL cM a (xs_pr v (k_ln (zdx xv5 md5) mx5 (x_pr v)))) H := hP
                  have hD : va_D A (mxW cI cL cM a (xs_pr v (k_ln (zdx xv5 md5) mx5 (x_pr v)))) := hD
                  refine lv_iconst (v := 2) hx hb dX4_decodeByte_113 (by decide) ?_
                  refine lv_iload_n hx hb dX4_decodeByte_114 rfl (lv_at hl 5 rfl) ?_
                  refine lv_imul hx hb dX4_decodeByte_115 ?_
                  refine lv_iload hx hb dX4_decodeByte_116 (lv_at hl 1 rfl) ?_
                  refine lv_if_eq (tgt := 125) hx hb dX4_decodeByte_118 (by decide) (fun cv => ?_) (fun cv => ?_)
                  · replace cv : (zdx xv5 md5) = (0 : Int32) := cv
                    refine lv_iconst (v := 0) hx hb dX4_decodeByte_125 (by decide) ?_
                    refine lv_iadd hx hb dX4_decodeByte_126 ?_
                    refine lv_istore_n (lv' := [(1, .int ((2 * vl) + 0)), (7, .int (nI (4 - f9))), (6, .int (zdx xv5 md5)), (4, .long md5), (3, .int mx5), (2, .int (nI k9)), (0, .ref (a 0))]) hx hb dX4_decodeByte_127 rfl hl (by decide) rfl (fun ls hl => ?_)
                    refine lv_iinc (v := nI (k9 + 1)) (lv' := [(2, .int (nI (k9 + 1))), (1, .int ((2 * vl) + 0)), (7, .int (nI (4 - f9))), (6, .int (zdx xv5 md5)), (4, .long md5), (3, .int mx5), (0, .ref (a 0))]) hx hb dX4_decodeByte_128 hl (k := 5) rfl (nI_1 _) (by decide) rfl (fun ls hl => ?_)
                    refine lv_goto (tgt := 4) hx hb dX4_decodeByte_131 (by decide) ?_
                    exact ih_lpb (k9 + 1) (xs_pr v (k_ln (zdx xv5 md5) mx5 (x_pr v))) ((2 * vl) + 0) (by omega) (by show (x_db (x_dby x k9).1, 2 * (x_dby x k9).2 + (if x_zd (x_dby x k9).1 = 0 then (0 : Int32) else 1)) = _; rw [hy]; dsimp only; unfold x_db; rw [hzd, ← hmx5, hqp2, hq0v, if_pos cv]) (by rw [x_pr_pr, hpy, hmx5]; exact hJ.2 _ _ hyJ) (by rw [x_en_pr]; exact hve.trans (hqe.trans hye)) (by omega) _ _ hP hD hS ls (lv_sub hl [0, 1, 6] rfl)
                  · replace cv : ¬ (zdx xv5 md5) = (0 : Int32) := cv
                    refine lv_iconst (v := 1) hx hb dX4_decodeByte_121 (by decide) ?_
                    refine lv_goto (tgt := 126) hx hb dX4_decodeByte_122 (by decide) ?_
                    refine lv_iadd hx hb dX4_decodeByte_126 ?_
                    refine lv_istore_n (lv' := [(1, .int ((2 * vl) + 1)), (7, .int (nI (4 - f9))), (6, .int (zdx xv5 md5)), (4, .long md5), (3, .int mx5), (2, .int (nI k9)), (0, .ref (a 0))]) hx hb dX4_decodeByte_127 rfl hl (by decide) rfl (fun ls hl => ?_)
                    refine lv_iinc (v := nI (k9 + 1)) (lv' := [(2, .int (nI (k9 + 1))), (1, .int ((2 * vl) + 1)), (7, .int (nI (4 - f9))), (6, .int (zdx xv5 md5)), (4, .long md5), (3, .int mx5), (0, .ref (a 0))]) hx hb dX4_decodeByte_128 hl (k := 5) rfl (nI_1 _) (by decide) rfl (fun ls hl => ?_)
                    refine lv_goto (tgt := 4) hx hb dX4_decodeByte_131 (by decide) ?_
                    exact ih_lpb (k9 + 1) (xs_pr v (k_ln (zdx xv5 md5) mx5 (x_pr v))) ((2 * vl) + 1) (by omega) (by show (x_db (x_dby x k9).1, 2 * (x_dby x k9).2 + (if x_zd (x_dby x k9).1 = 0 then (0 : Int32) else 1)) = _; rw [hy]; dsimp only; unfold x_db; rw [hzd, ← hmx5, hqp2, hq0v, if_neg cv]) (by rw [x_pr_pr, hpy, hmx5]; exact hJ.2 _ _ hyJ) (by rw [x_en_pr]; exact hve.trans (hqe.trans hye)) (by omega) _ _ hP hD hS ls (lv_sub hl [0, 1, 6] rfl)
                · replace cw : ¬ (v_set (x_iv v)) = (0 : Int32) := cw
                  refine lv_aload_n hx hb dX4_decodeByte_78 rfl (lv_at hl 6 rfl) ?_
                  refine va_get (D := D) (ci := 4) (v := .ref (a 10)) (C := RX4) (T := TX4) (N := 5) hx hb hts (fun _ h => List.mem_cons_of_mem _ (List.mem_append_left _ (List.mem_append_left _ (List.mem_append_left _ (List.mem_append_left _ (List.mem_append_right _ h)))))) hown hK hP 0 rfl rfl 4 (by decide) (hts _ (List.mem_of_getElem? (i := 2) rfl)) (fun _ h9 => h9) rfl dX4_decodeByte_79 ?_
                  refine kI (rV (As := []) (rest := []) ⟨hx, hb, hml, hown, hts⟩ (c_X1_shift l D cI cL cM _ (a 10) (x_iv v)  ) (cwV 0 hts gX4_decodeByte_X1_shift rfl rfl rfl (by decide +kernel) ⟨(Nat.le_of_ble_eq_true rfl), (Nat.le_of_ble_eq_true rfl)⟩) hE hP hD [34] rfl rfl rfl rfl rfl hl.1 rfl (Nat.le_of_ble_eq_true rfl) dX4_decodeByte_82 ⟨(Nat.le_of_ble_eq_true rfl), (Nat.le_of_ble_eq_true rfl)⟩) hP hD hS hA (is := [34]) rfl rfl (fun H locs hP hD hS => ?_)
                  rw [mxW_iv] at hP hD
                  have hP : va_P D vwCl (mxW cI cL cM a (xs_iv v (v_shf (x_iv v)))) H := hP
                  have hD : va_D A (mxW cI cL cM a (xs_iv v (v_shf (x_iv v)))) := hD
                  obtain ⟨s1, hs1⟩ : ∃ y9 : Mx, y9 = (xs_iv v (v_shf (x_iv v))) := ⟨_, rfl⟩
                  rw [← hs1] at hP hD
                  have hse : x_en s1 = x_en v := by rw [hs1, x_en_iv]
                  refine lv_pop hx hb dX4_decodeByte_85 rfl ?_
                  refine lv_aload_n hx hb dX4_decodeByte_86 rfl (lv_at hl 6 rfl) ?_
                  refine va_get (D := D) (ci := 4) (v := .ref (a 10)) (C := RX4) (T := TX4) (N := 5) hx hb hts (fun _ h => List.mem_cons_of_mem _ (List.mem_append_left _ (List.mem_append_left _ (List.mem_append_left _ (List.mem_append_left _ (List.mem_append_right _ h)))))) hown hK hP 0 rfl rfl 4 (by decide) (hts _ (List.mem_of_getElem? (i := 2) rfl)) (fun _ h9 => h9) rfl dX4_decodeByte_87 ?_
                  refine lv_aload_n hx hb dX4_decodeByte_90 rfl (lv_at hl 6 rfl) ?_
                  refine va_get (D := D) (ci := 4) (v := .ref (a 3)) (C := RX4) (T := TX4) (N := 5) hx hb hts (fun _ h => List.mem_cons_of_mem _ (List.mem_append_left _ (List.mem_append_left _ (List.mem_append_left _ (List.mem_append_left _ (List.mem_append_right _ h)))))) hown hK hP 0 rfl rfl 1 (by decide) (hts _ (List.mem_of_getElem? (i := 4) rfl)) (fun _ h9 => h9) rfl dX4_decodeByte_91 ?_
                  refine kV (rV (As := [.ref (a 3)]) (rest := []) ⟨hx, hb, hml, hown, hts⟩ (c_X1_pull l D cI cL cM _ (a 10) (a 3) (a 4) 2564 ((x_iv s1), (x_en s1)) (show q_c (x_en s1) ≤ 2564 by rw [hse, hve, hqe, hye]; exact hec) (Nat.le_of_ble_eq_true rfl)) (cwV 1 hts gX4_decodeByte_X1_pull rfl rfl rfl (by decide +kernel) ⟨(Nat.le_of_ble_eq_true rfl), (Nat.le_of_ble_eq_true rfl)⟩) hE hP hD [34, 3, 4] rfl rfl rfl rfl rfl hl.1 rfl (Nat.le_of_ble_eq_true rfl) dX4_decodeByte_94 ⟨(Nat.le_of_ble_eq_true rfl), (Nat.le_of_ble_eq_true rfl)⟩) hP hD hS hA (is := [34, 3, 4]) rfl rfl (fun H locs hP hD hS => ?_)
                  rw [mxW_pull] at hP hD
                  have hP : va_P D vwCl (mxW cI cL cM a (xs_iv s1 (v_pul (x_iv s1) (x_en s1)))) H := hP
                  have hD : va_D A (mxW cI cL cM a (xs_iv s1 (v_pul (x_iv s1) (x_en s1)))) := hD
                  refine lv_iinc (v := nI (4 - (f9 - 1))) (lv' := [(7, .int (nI (4 - (f9 - 1)))), (6, .int (zdx xv5 md5)), (4, .long md5), (3, .int mx5), (2, .int (nI k9)), (1, .int vl), (0, .ref (a 0))]) hx hb dX4_decodeByte_97 hl (k := 0) rfl (by rw [show 4 - (f9 - 1) = 4 - f9 + 1 from by omega]; exact nI_1 _) (by decide) rfl (fun ls hl => ?_)
                  refine lv_goto (tgt := 62) hx hb dX4_decodeByte_100 (by decide) ?_
                  have e9 : (xs_iv s1 (v_pul (x_iv s1) (x_en s1))) = x_dst v := by rw [hs1]; rfl
                  exact ih_lpw (f9 - 1) (xs_iv s1 (v_pul (x_iv s1) (x_en s1))) (by omega) (by rw [e9]; exact (x_dwh_go cw hf1).trans hvw) (by rw [e9]; exact (x_dst_pr v).trans hvp) (by rw [e9]; exact (x_dst_en v).trans hve) (by omega) _ _ hP hD hS ls (lv_sub hl [0, 1, 2, 3, 4, 5, 6] rfl)
          exact lpw _ 4 q0 (Nat.le_refl _) (rfl) (rfl) (rfl) (Nat.lt_succ_self _) _ _ hP hD hS ls (lv_sub hl [0, 1, 2, 3, 4, 5, 6] rfl)
  exact lpb _ 0 x 0 (Nat.zero_le _) (rfl) (hJ0) (rfl) (Nat.lt_succ_self _) _ _ hP hD hS ls (lv_sub hl [0, 1, 2] rfl)
