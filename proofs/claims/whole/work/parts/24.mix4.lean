/-! ===== BitMixer.encode ===== -/

set_option maxHeartbeats 4000000 in
set_option maxRecDepth 100000 in
theorem c_X4_encode (l : Launch) (D : va_G) (cI cL cM : ClassId) (A : Nat → Prop) (a : Nat → Nat) (x : Mx) (J : Pr → Prop) (hJ : JInv J) (hJ0 : J (k_rs (x_pr x))) (hn6 : k_n (x_pr x) ≤ 6) (htc : q_c (x_tx x) ≤ 80) : mI l yX4_encode wsX4_encode ({ frames := 6, cells := 0, slots := 0, locals := 135 }) D (tB cI cL cM) A [.ref (a 0)] (mxW cI cL cM a x) (nI (q_c (x_en (x_enc x)))) (mxW cI cL cM a (x_enc x)) := by
  refine Met.ofW (cc := cX4_encode) (maxL := 2) (ret := (some .int)) (by decide) rfl ?_
  intro p e s m args below meth c s₁ B hml hv
  obtain ⟨rfl, hP, hE, hD, hA⟩ := hv
  have hK := hE.1
  have hx := B.exec
  have hb := B.bytes
  have hr := B.returns
  have hts := atoms_spec (ws := wsX4_encode) B.pre
  have hown : s.vm.findClass RX4 = some m.cls := findClass_of_methodNamed B.named
  have hlocks := B.notSynchronized
  have hS : va_S A s.heap s.heap [] := va_S.rf
  have hl := lv_entry ([.ref (a 0)]) (n := 2) (Nat.le_of_ble_eq_true rfl)
  rw [lg_entry_eq]
  generalize (lg_sl ([.ref (a 0)]) ++ List.replicate (2 - (lg_sl ([.ref (a 0)])).length) Slot.unset).toArray = ls at hl ⊢
  have hl : lv_has ls 2 [(0, .ref (a 0))] := hl
  refine lv_aload_n hx hb dX4_encode_0 rfl (lv_at hl 0 rfl) ?_
  refine va_get (D := D) (ci := 4) (v := .ref (a 7)) (C := RX4) (T := TX4) (N := 5) hx hb hts (fun _ h => List.mem_cons_of_mem _ (List.mem_append_left _ (List.mem_append_left _ (List.mem_append_left _ (List.mem_append_left _ (List.mem_append_right _ h)))))) hown hK hP 0 rfl rfl 3 (by decide) (hts _ (List.mem_of_getElem? (i := 1) rfl)) (fun _ h9 => h9) rfl dX4_encode_1 ?_
  refine kV (rV (As := []) (rest := []) ⟨hx, hb, hml, hown, hts⟩ (c_X3_restart l D cI cL cM _ a (x_pr x)  hn6) (cwV 0 hts gX4_encode_X3_restart rfl rfl rfl (by decide +kernel) ⟨(Nat.le_of_ble_eq_true rfl), (Nat.le_of_ble_eq_true rfl)⟩) hE hP hD [7, 8, 9, 10, 11, 12, 13, 14, 15, 16, 17, 18, 19, 20, 21, 22, 23, 24, 25, 26, 27, 28, 29, 30, 31, 32, 33] segnd (mxW_prC cI cL cM a _) rfl rfl rfl hl.1 rfl (Nat.le_of_ble_eq_true rfl) dX4_encode_4 ⟨(Nat.le_of_ble_eq_true rfl), (Nat.le_of_ble_eq_true rfl)⟩) hP hD hS hA (is := [7, 8, 9, 10, 11, 12, 13, 14, 15, 16, 17, 18, 19, 20, 21, 22, 23, 24, 25, 26, 27, 28, 29, 30, 31, 32, 33]) (mxW_prC cI cL cM a _) (prW_fst cI cL cM a _ _) (fun H locs hP hD hS => ?_)
  rw [mxW_pr] at hP hD
  have hP : va_P D vwCl (mxW cI cL cM a (xs_pr x (k_rs (x_pr x)))) H := hP
  have hD : va_D A (mxW cI cL cM a (xs_pr x (k_rs (x_pr x)))) := hD
  obtain ⟨b1, hb1⟩ : ∃ y9 : Mx, y9 = (xs_pr x (k_rs (x_pr x))) := ⟨_, rfl⟩
  rw [← hb1] at hP hD
  refine lv_aload_n hx hb dX4_encode_7 rfl (lv_at hl 0 rfl) ?_
  refine va_get (D := D) (ci := 4) (v := .ref (a 10)) (C := RX4) (T := TX4) (N := 5) hx hb hts (fun _ h => List.mem_cons_of_mem _ (List.mem_append_left _ (List.mem_append_left _ (List.mem_append_left _ (List.mem_append_left _ (List.mem_append_right _ h)))))) hown hK hP 0 rfl rfl 4 (by decide) (hts _ (List.mem_of_getElem? (i := 2) rfl)) (fun _ h9 => h9) rfl dX4_encode_8 ?_
  refine kV (rV (As := []) (rest := []) ⟨hx, hb, hml, hown, hts⟩ (c_X1_open l D cI cL cM _ (a 10) (x_iv b1)  ) (cwV 0 hts gX4_encode_X1_open rfl rfl rfl (by decide +kernel) ⟨(Nat.le_of_ble_eq_true rfl), (Nat.le_of_ble_eq_true rfl)⟩) hE hP hD [34] rfl rfl rfl rfl rfl hl.1 rfl (Nat.le_of_ble_eq_true rfl) dX4_encode_11 ⟨(Nat.le_of_ble_eq_true rfl), (Nat.le_of_ble_eq_true rfl)⟩) hP hD hS hA (is := [34]) rfl rfl (fun H locs hP hD hS => ?_)
  rw [mxW_iv] at hP hD
  have hP : va_P D vwCl (mxW cI cL cM a (xs_iv b1 (v_opn (x_iv b1)))) H := hP
  have hD : va_D A (mxW cI cL cM a (xs_iv b1 (v_opn (x_iv b1)))) := hD
  obtain ⟨b2, hb2⟩ : ∃ y9 : Mx, y9 = (xs_iv b1 (v_opn (x_iv b1))) := ⟨_, rfl⟩
  rw [← hb2] at hP hD
  refine lv_aload_n hx hb dX4_encode_14 rfl (lv_at hl 0 rfl) ?_
  refine va_get (D := D) (ci := 4) (v := .ref (a 3)) (C := RX4) (T := TX4) (N := 5) hx hb hts (fun _ h => List.mem_cons_of_mem _ (List.mem_append_left _ (List.mem_append_left _ (List.mem_append_left _ (List.mem_append_left _ (List.mem_append_right _ h)))))) hown hK hP 0 rfl rfl 1 (by decide) (hts _ (List.mem_of_getElem? (i := 3) rfl)) (fun _ h9 => h9) rfl dX4_encode_15 ?_
  refine kV (rV (As := []) (rest := []) ⟨hx, hb, hml, hown, hts⟩ (c_X0_clear l D cI cL cM _ (a 3) (a 4) 2564 (x_en b2)  ) (cwV 0 hts gX4_encode_X0_clear rfl rfl rfl (by decide +kernel) ⟨(Nat.le_of_ble_eq_true rfl), (Nat.le_of_ble_eq_true rfl)⟩) hE hP hD [3, 4] rfl rfl rfl rfl rfl hl.1 rfl (Nat.le_of_ble_eq_true rfl) dX4_encode_18 ⟨(Nat.le_of_ble_eq_true rfl), (Nat.le_of_ble_eq_true rfl)⟩) hP hD hS hA (is := [3, 4]) rfl rfl (fun H locs hP hD hS => ?_)
  rw [mxW_en] at hP hD
  have hP : va_P D vwCl (mxW cI cL cM a (xs_en b2 (qs_c (x_en b2) 0))) H := hP
  have hD : va_D A (mxW cI cL cM a (xs_en b2 (qs_c (x_en b2) 0))) := hD
  obtain ⟨e1, he1⟩ : ∃ y9 : Mx, y9 = (xs_en b2 (qs_c (x_en b2) 0)) := ⟨_, rfl⟩
  rw [← he1] at hP hD
  have hE1 : e1 = x_e1 x := by rw [he1, hb2, hb1]; unfold x_e1; rw [x_en_iv, x_en_pr, x_iv_pr]
  have hJ1 : J (x_pr e1) := by rw [hE1, x_e1_pr]; exact hJ0
  have htx1 : x_tx e1 = x_tx x := by rw [hE1]; exact x_e1_tx x
  have hec1 : q_c (x_en e1) ≤ 2564 := by rw [hE1]; exact x_e1_en x
  refine lv_iconst (v := 0) hx hb dX4_encode_21 (by decide) ?_
  refine lv_istore_n (lv' := [(1, .int 0), (0, .ref (a 0))]) hx hb dX4_encode_22 rfl hl (by decide) rfl (fun ls hl => ?_)
  have lpp : ∀ (n9 : Nat) (p9 : Nat) (v : Mx) (hp9 : p9 ≤ q_c (x_tx x)) (hv : v = x_enl e1 p9) (hvJ : J (x_pr v)) (hvt : x_tx v = x_tx x) (hvc : q_c (x_en v) ≤ 2564), q_c (x_tx x) - p9 < n9 → ∀ (H : Heap) (locs : List Loc), va_P D vwCl (mxW cI cL cM a v) H → va_D A (mxW cI cL cM a v) → va_S A s.heap H locs → ∀ (ls : Array Slot), lv_has ls 2 [(1, .int (nI p9)), (0, .ref (a 0))] → W p l e (headSpec wsX4_encode ({ frames := 6, cells := 0, slots := 0, locals := 135 })).room s m (([.ref (a 0)] : List Value).toArray) below meth c H locs 0 0 (MQ below (va_Qi (fun x9 (_ : Unit) => x9 = (nI (q_c (x_en (x_enc x))))) (fun _ t => hq D A (mxW cI cL cM a (x_enc x)) t) A) (([.ref (a 0)] : List Value).toArray) s 0 0 A) (F0 m 23 ls []) := by
    intro n9
    induction n9 with
    | zero => intro p9 v hp9 hv hvJ hvt hvc hm9; exact absurd hm9 (Nat.not_lt_zero _)
    | succ n9 ih_lpp =>
      intro p9 v hp9 hv hvJ hvt hvc hm9 H locs hP hD hS ls hl
      refine lv_iload_n hx hb dX4_encode_23 rfl (lv_at hl 0 rfl) ?_
      refine lv_aload_n hx hb dX4_encode_24 rfl (lv_at hl 1 rfl) ?_
      refine va_get (D := D) (ci := 4) (v := .ref (a 1)) (C := RX4) (T := TX4) (N := 5) hx hb hts (fun _ h => List.mem_cons_of_mem _ (List.mem_append_left _ (List.mem_append_left _ (List.mem_append_left _ (List.mem_append_left _ (List.mem_append_right _ h)))))) hown hK hP 0 rfl rfl 0 (by decide) (hts _ (List.mem_of_getElem? (i := 4) rfl)) (fun _ h9 => h9) rfl dX4_encode_25 ?_
      refine va_get (D := D) (ci := 0) (v := .int (nI (q_c (x_tx v)))) (C := RX0) (T := TX0) (N := 2) hx hb hts (fun _ h => List.mem_cons_of_mem _ (List.mem_append_left _ (List.mem_append_left _ (List.mem_append_left _ (List.mem_append_right _ h))))) hown hK hP 1 rfl rfl 1 (by decide) (hts _ (List.mem_of_getElem? (i := 5) rfl)) (fun _ h9 => h9) rfl dX4_encode_28 ?_
      refine topI (y := nI (q_c (x_tx x))) (by rw [hvt]) ?_
      refine lv_icmp_ge (tgt := 52) hx hb dX4_encode_31 (by decide) (fun cj => ?_) (fun cj => ?_)
      · replace cj : (nI (q_c (x_tx x))) ≤ (nI p9) := cj
        have hjn : p9 = q_c (x_tx x) := by have h8 := ge_N (by omega) (by omega) cj; omega
        have hc := hvc
        refine lv_iconst (v := 0) hx hb dX4_encode_52 (by decide) ?_
        refine lv_istore_n (lv' := [(1, .int 0), (0, .ref (a 0))]) hx hb dX4_encode_53 rfl hl (by decide) rfl (fun ls hl => ?_)
        refine lv_iload_n hx hb dX4_encode_54 rfl (lv_at hl 0 rfl) ?_
        refine lv_iconst (v := 4) hx hb dX4_encode_55 (by decide) ?_
        refine lv_icmp_ge (tgt := 79) hx hb dX4_encode_56 (by decide) (fun c_1 => absurd c_1 (by decide)) (fun c_1 => ?_)
        refine lv_aload_n hx hb dX4_encode_59 rfl (lv_at hl 1 rfl) ?_
        refine va_get (D := D) (ci := 4) (v := .ref (a 3)) (C := RX4) (T := TX4) (N := 5) hx hb hts (fun _ h => List.mem_cons_of_mem _ (List.mem_append_left _ (List.mem_append_left _ (List.mem_append_left _ (List.mem_append_left _ (List.mem_append_right _ h)))))) hown hK hP 0 rfl rfl 1 (by decide) (hts _ (List.mem_of_getElem? (i := 3) rfl)) (fun _ h9 => h9) rfl dX4_encode_60 ?_
        refine lv_aload_n hx hb dX4_encode_63 rfl (lv_at hl 1 rfl) ?_
        refine va_get (D := D) (ci := 4) (v := .ref (a 10)) (C := RX4) (T := TX4) (N := 5) hx hb hts (fun _ h => List.mem_cons_of_mem _ (List.mem_append_left _ (List.mem_append_left _ (List.mem_append_left _ (List.mem_append_left _ (List.mem_append_right _ h)))))) hown hK hP 0 rfl rfl 4 (by decide) (hts _ (List.mem_of_getElem? (i := 2) rfl)) (fun _ h9 => h9) rfl dX4_encode_64 ?_
        refine kI (rV (As := []) (rest := [.ref (a 3)]) ⟨hx, hb, hml, hown, hts⟩ (c_X1_shift l D cI cL cM _ (a 10) (x_iv v)  ) (cwV 0 hts gX4_encode_X1_shift rfl rfl rfl (by decide +kernel) ⟨(Nat.le_of_ble_eq_true rfl), (Nat.le_of_ble_eq_true rfl)⟩) hE hP hD [34] rfl rfl rfl rfl rfl hl.1 rfl (Nat.le_of_ble_eq_true rfl) dX4_encode_67 ⟨(Nat.le_of_ble_eq_true rfl), (Nat.le_of_ble_eq_true rfl)⟩) hP hD hS hA (is := [34]) rfl rfl (fun H locs hP hD hS => ?_)
        rw [mxW_iv] at hP hD
        have hP : va_P D vwCl (mxW cI cL cM a (xs_iv v (v_shf (x_iv v)))) H := hP
        have hD : va_D A (mxW cI cL cM a (xs_iv v (v_shf (x_iv v)))) := hD
        obtain ⟨s1, hs1⟩ : ∃ y9 : Mx, y9 = (xs_iv v (v_shf (x_iv v))) := ⟨_, rfl⟩
        rw [← hs1] at hP hD
        have hse : x_en s1 = x_en v := by rw [hs1, x_en_iv]
        refine lv_topi (fun tp1 htp1 => ?_)
        refine kV (rV (As := [.int tp1]) (rest := []) ⟨hx, hb, hml, hown, hts⟩ (c_X0_append l D cI cL cM _ (a 3) (a 4) 2564 (x_en s1) tp1 (by rw [hse]; exact hc) (Nat.le_of_ble_eq_true rfl)) (cwV 1 hts gX4_encode_X0_append rfl rfl rfl (by decide +kernel) ⟨(Nat.le_of_ble_eq_true rfl), (Nat.le_of_ble_eq_true rfl)⟩) hE hP hD [3, 4] rfl rfl rfl rfl rfl hl.1 rfl (Nat.le_of_ble_eq_true rfl) dX4_encode_70 ⟨(Nat.le_of_ble_eq_true rfl), (Nat.le_of_ble_eq_true rfl)⟩) hP hD hS hA (is := [3, 4]) rfl rfl (fun H locs hP hD hS => ?_)
        rw [mxW_en] at hP hD
        have hP : va_P D vwCl (mxW cI cL cM a (xs_en s1 (q_app 2564 (x_en s1) tp1))) H := hP
        have hD : va_D A (mxW cI cL cM a (xs_en s1 (q_app 2564 (x_en s1) tp1))) := hD
        obtain ⟨tl1, htl1⟩ : ∃ y9 : Mx, y9 = (xs_en s1 (q_app 2564 (x_en s1) tp1)) := ⟨_, rfl⟩
        rw [← htl1] at hP hD
        have hx_tl1 : tl1 = x_ps v := by rw [htl1, htp1, hs1]; unfold x_ps; rw [x_en_iv]
        have hc : q_c (x_en tl1) ≤ 2564 := by rw [hx_tl1]; exact x_ps_ec hc
        refine lv_iinc (v := 1) (lv' := [(1, .int 1), (0, .ref (a 0))]) hx hb dX4_encode_73 hl (k := 0) rfl (by decide) (by decide) rfl (fun ls hl => ?_)
        refine lv_goto (tgt := 54) hx hb dX4_encode_76 (by decide) ?_
        refine lv_iload_n hx hb dX4_encode_54 rfl (lv_at hl 0 rfl) ?_
        refine lv_iconst (v := 4) hx hb dX4_encode_55 (by decide) ?_
        refine lv_icmp_ge (tgt := 79) hx hb dX4_encode_56 (by decide) (fun c_2 => absurd c_2 (by decide)) (fun c_2 => ?_)
        refine lv_aload_n hx hb dX4_encode_59 rfl (lv_at hl 1 rfl) ?_
        refine va_get (D := D) (ci := 4) (v := .ref (a 3)) (C := RX4) (T := TX4) (N := 5) hx hb hts (fun _ h => List.mem_cons_of_mem _ (List.mem_append_left _ (List.mem_append_left _ (List.mem_append_left _ (List.mem_append_left _ (List.mem_append_right _ h)))))) hown hK hP 0 rfl rfl 1 (by decide) (hts _ (List.mem_of_getElem? (i := 3) rfl)) (fun _ h9 => h9) rfl dX4_encode_60 ?_
        refine lv_aload_n hx hb dX4_encode_63 rfl (lv_at hl 1 rfl) ?_
        refine va_get (D := D) (ci := 4) (v := .ref (a 10)) (C := RX4) (T := TX4) (N := 5) hx hb hts (fun _ h => List.mem_cons_of_mem _ (List.mem_append_left _ (List.mem_append_left _ (List.mem_append_left _ (List.mem_append_left _ (List.mem_append_right _ h)))))) hown hK hP 0 rfl rfl 4 (by decide) (hts _ (List.mem_of_getElem? (i := 2) rfl)) (fun _ h9 => h9) rfl dX4_encode_64 ?_
        refine kI (rV (As := []) (rest := [.ref (a 3)]) ⟨hx, hb, hml, hown, hts⟩ (c_X1_shift l D cI cL cM _ (a 10) (x_iv tl1)  ) (cwV 0 hts gX4_encode_X1_shift rfl rfl rfl (by decide +kernel) ⟨(Nat.le_of_ble_eq_true rfl), (Nat.le_of_ble_eq_true rfl)⟩) hE hP hD [34] rfl rfl rfl rfl rfl hl.1 rfl (Nat.le_of_ble_eq_true rfl) dX4_encode_67 ⟨(Nat.le_of_ble_eq_true rfl), (Nat.le_of_ble_eq_true rfl)⟩) hP hD hS hA (is := [34]) rfl rfl (fun H locs hP hD hS => ?_)
        rw [mxW_iv] at hP hD
        have hP : va_P D vwCl (mxW cI cL cM a (xs_iv tl1 (v_shf (x_iv tl1)))) H := hP
        have hD : va_D A (mxW cI cL cM a (xs_iv tl1 (v_shf (x_iv tl1)))) := hD
        obtain ⟨s2, hs2⟩ : ∃ y9 : Mx, y9 = (xs_iv tl1 (v_shf (x_iv tl1))) := ⟨_, rfl⟩
        rw [← hs2] at hP hD
        have hse : x_en s2 = x_en tl1 := by rw [hs2, x_en_iv]
        refine lv_topi (fun tp2 htp2 => ?_)
        refine kV (rV (As := [.int tp2]) (rest := []) ⟨hx, hb, hml, hown, hts⟩ (c_X0_append l D cI cL cM _ (a 3) (a 4) 2564 (x_en s2) tp2 (by rw [hse]; exact hc) (Nat.le_of_ble_eq_true rfl)) (cwV 1 hts gX4_encode_X0_append rfl rfl rfl (by decide +kernel) ⟨(Nat.le_of_ble_eq_true rfl), (Nat.le_of_ble_eq_true rfl)⟩) hE hP hD [3, 4] rfl rfl rfl rfl rfl hl.1 rfl (Nat.le_of_ble_eq_true rfl) dX4_encode_70 ⟨(Nat.le_of_ble_eq_true rfl), (Nat.le_of_ble_eq_true rfl)⟩) hP hD hS hA (is := [3, 4]) rfl rfl (fun H locs hP hD hS => ?_)
        rw [mxW_en] at hP hD
        have hP : va_P D vwCl (mxW cI cL cM a (xs_en s2 (q_app 2564 (x_en s2) tp2))) H := hP
        have hD : va_D A (mxW cI cL cM a (xs_en s2 (q_app 2564 (x_en s2) tp2))) := hD
        obtain ⟨tl2, htl2⟩ : ∃ y9 : Mx, y9 = (xs_en s2 (q_app 2564 (x_en s2) tp2)) := ⟨_, rfl⟩
        rw [← htl2] at hP hD
        have hx_tl2 : tl2 = x_ps tl1 := by rw [htl2, htp2, hs2]; unfold x_ps; rw [x_en_iv]
        have hc : q_c (x_en tl2) ≤ 2564 := by rw [hx_tl2]; exact x_ps_ec hc
        refine lv_iinc (v := 2) (lv' := [(1, .int 2), (0, .ref (a 0))]) hx hb dX4_encode_73 hl (k := 0) rfl (by decide) (by decide) rfl (fun ls hl => ?_)
        refine lv_goto (tgt := 54) hx hb dX4_encode_76 (by decide) ?_
        refine lv_iload_n hx hb dX4_encode_54 rfl (lv_at hl 0 rfl) ?_
        refine lv_iconst (v := 4) hx hb dX4_encode_55 (by decide) ?_
        refine lv_icmp_ge (tgt := 79) hx hb dX4_encode_56 (by decide) (fun c_3 => absurd c_3 (by decide)) (fun c_3 => ?_)
        refine lv_aload_n hx hb dX4_encode_59 rfl (lv_at hl 1 rfl) ?_
        refine va_get (D := D) (ci := 4) (v := .ref (a 3)) (C := RX4) (T := TX4) (N := 5) hx hb hts (fun _ h => List.mem_cons_of_mem _ (List.mem_append_left _ (List.mem_append_left _ (List.mem_append_left _ (List.mem_append_left _ (List.mem_append_right _ h)))))) hown hK hP 0 rfl rfl 1 (by decide) (hts _ (List.mem_of_getElem? (i := 3) rfl)) (fun _ h9 => h9) rfl dX4_encode_60 ?_
        refine lv_aload_n hx hb dX4_encode_63 rfl (lv_at hl 1 rfl) ?_
        refine va_get (D := D) (ci := 4) (v := .ref (a 10)) (C := RX4) (T := TX4) (N := 5) hx hb hts (fun _ h => List.mem_cons_of_mem _ (List.mem_append_left _ (List.mem_append_left _ (List.mem_append_left _ (List.mem_append_left _ (List.mem_append_right _ h)))))) hown hK hP 0 rfl rfl 4 (by decide) (hts _ (List.mem_of_getElem? (i := 2) rfl)) (fun _ h9 => h9) rfl dX4_encode_64 ?_
        refine kI (rV (As := []) (rest := [.ref (a 3)]) ⟨hx, hb, hml, hown, hts⟩ (c_X1_shift l D cI cL cM _ (a 10) (x_iv tl2)  ) (cwV 0 hts gX4_encode_X1_shift rfl rfl rfl (by decide +kernel) ⟨(Nat.le_of_ble_eq_true rfl), (Nat.le_of_ble_eq_true rfl)⟩) hE hP hD [34] rfl rfl rfl rfl rfl hl.1 rfl (Nat.le_of_ble_eq_true rfl) dX4_encode_67 ⟨(Nat.le_of_ble_eq_true rfl), (Nat.le_of_ble_eq_true rfl)⟩) hP hD hS hA (is := [34]) rfl rfl (fun H locs hP hD hS => ?_)
        rw [mxW_iv] at hP hD
        have hP : va_P D vwCl (mxW cI cL cM a (xs_iv tl2 (v_shf (x_iv tl2)))) H := hP
        have hD : va_D A (mxW cI cL cM a (xs_iv tl2 (v_shf (x_iv tl2)))) := hD
        obtain ⟨s3, hs3⟩ : ∃ y9 : Mx, y9 = (xs_iv tl2 (v_shf (x_iv tl2))) := ⟨_, rfl⟩
        rw [← hs3] at hP hD
        have hse : x_en s3 = x_en tl2 := by rw [hs3, x_en_iv]
        refine lv_topi (fun tp3 htp3 => ?_)
        refine kV (rV (As := [.int tp3]) (rest := []) ⟨hx, hb, hml, hown, hts⟩ (c_X0_append l D cI cL cM _ (a 3) (a 4) 2564 (x_en s3) tp3 (by rw [hse]; exact hc) (Nat.le_of_ble_eq_true rfl)) (cwV 1 hts gX4_encode_X0_append rfl rfl rfl (by decide +kernel) ⟨(Nat.le_of_ble_eq_true rfl), (Nat.le_of_ble_eq_true rfl)⟩) hE hP hD [3, 4] rfl rfl rfl rfl rfl hl.1 rfl (Nat.le_of_ble_eq_true rfl) dX4_encode_70 ⟨(Nat.le_of_ble_eq_true rfl), (Nat.le_of_ble_eq_true rfl)⟩) hP hD hS hA (is := [3, 4]) rfl rfl (fun H locs hP hD hS => ?_)
        rw [mxW_en] at hP hD
        have hP : va_P D vwCl (mxW cI cL cM a (xs_en s3 (q_app 2564 (x_en s3) tp3))) H := hP
        have hD : va_D A (mxW cI cL cM a (xs_en s3 (q_app 2564 (x_en s3) tp3))) := hD
        obtain ⟨tl3, htl3⟩ : ∃ y9 : Mx, y9 = (xs_en s3 (q_app 2564 (x_en s3) tp3)) := ⟨_, rfl⟩
        rw [← htl3] at hP hD
        have hx_tl3 : tl3 = x_ps tl2 := by rw [htl3, htp3, hs3]; unfold x_ps; rw [x_en_iv]
        have hc : q_c (x_en tl3) ≤ 2564 := by rw [hx_tl3]; exact x_ps_ec hc
        refine lv_iinc (v := 3) (lv' := [(1, .int 3), (0, .ref (a 0))]) hx hb dX4_encode_73 hl (k := 0) rfl (by decide) (by decide) rfl (fun ls hl => ?_)
        refine lv_goto (tgt := 54) hx hb dX4_encode_76 (by decide) ?_
        refine lv_iload_n hx hb dX4_encode_54 rfl (lv_at hl 0 rfl) ?_
        refine lv_iconst (v := 4) hx hb dX4_encode_55 (by decide) ?_
        refine lv_icmp_ge (tgt := 79) hx hb dX4_encode_56 (by decide) (fun c_4 => absurd c_4 (by decide)) (fun c_4 => ?_)
        refine lv_aload_n hx hb dX4_encode_59 rfl (lv_at hl 1 rfl) ?_
        refine va_get (D := D) (ci := 4) (v := .ref (a 3)) (C := RX4) (T := TX4) (N := 5) hx hb hts (fun _ h => List.mem_cons_of_mem _ (List.mem_append_left _ (List.mem_append_left _ (List.mem_append_left _ (List.mem_append_left _ (List.mem_append_right _ h)))))) hown hK hP 0 rfl rfl 1 (by decide) (hts _ (List.mem_of_getElem? (i := 3) rfl)) (fun _ h9 => h9) rfl dX4_encode_60 ?_
        refine lv_aload_n hx hb dX4_encode_63 rfl (lv_at hl 1 rfl) ?_
        refine va_get (D := D) (ci := 4) (v := .ref (a 10)) (C := RX4) (T := TX4) (N := 5) hx hb hts (fun _ h => List.mem_cons_of_mem _ (List.mem_append_left _ (List.mem_append_left _ (List.mem_append_left _ (List.mem_append_left _ (List.mem_append_right _ h)))))) hown hK hP 0 rfl rfl 4 (by decide) (hts _ (List.mem_of_getElem? (i := 2) rfl)) (fun _ h9 => h9) rfl dX4_encode_64 ?_
        refine kI (rV (As := []) (rest := [.ref (a 3)]) ⟨hx, hb, hml, hown, hts⟩ (c_X1_shift l D cI cL cM _ (a 10) (x_iv tl3)  ) (cwV 0 hts gX4_encode_X1_shift rfl rfl rfl (by decide +kernel) ⟨(Nat.le_of_ble_eq_true rfl), (Nat.le_of_ble_eq_true rfl)⟩) hE hP hD [34] rfl rfl rfl rfl rfl hl.1 rfl (Nat.le_of_ble_eq_true rfl) dX4_encode_67 ⟨(Nat.le_of_ble_eq_true rfl), (Nat.le_of_ble_eq_true rfl)⟩) hP hD hS hA (is := [34]) rfl rfl (fun H locs hP hD hS => ?_)
        rw [mxW_iv] at hP hD
        have hP : va_P D vwCl (mxW cI cL cM a (xs_iv tl3 (v_shf (x_iv tl3)))) H := hP
        have hD : va_D A (mxW cI cL cM a (xs_iv tl3 (v_shf (x_iv tl3)))) := hD
        obtain ⟨s4, hs4⟩ : ∃ y9 : Mx, y9 = (xs_iv tl3 (v_shf (x_iv tl3))) := ⟨_, rfl⟩
        rw [← hs4] at hP hD
        have hse : x_en s4 = x_en tl3 := by rw [hs4, x_en_iv]
        refine lv_topi (fun tp4 htp4 => ?_)
        refine kV (rV (As := [.int tp4]) (rest := []) ⟨hx, hb, hml, hown, hts⟩ (c_X0_append l D cI cL cM _ (a 3) (a 4) 2564 (x_en s4) tp4 (by rw [hse]; exact hc) (Nat.le_of_ble_eq_true rfl)) (cwV 1 hts gX4_encode_X0_append rfl rfl rfl (by decide +kernel) ⟨(Nat.le_of_ble_eq_true rfl), (Nat.le_of_ble_eq_true rfl)⟩) hE hP hD [3, 4] rfl rfl rfl rfl rfl hl.1 rfl (Nat.le_of_ble_eq_true rfl) dX4_encode_70 ⟨(Nat.le_of_ble_eq_true rfl), (Nat.le_of_ble_eq_true rfl)⟩) hP hD hS hA (is := [3, 4]) rfl rfl (fun H locs hP hD hS => ?_)
        rw [mxW_en] at hP hD
        have hP : va_P D vwCl (mxW cI cL cM a (xs_en s4 (q_app 2564 (x_en s4) tp4))) H := hP
        have hD : va_D A (mxW cI cL cM a (xs_en s4 (q_app 2564 (x_en s4) tp4))) := hD
        obtain ⟨tl4, htl4⟩ : ∃ y9 : Mx, y9 = (xs_en s4 (q_app 2564 (x_en s4) tp4)) := ⟨_, rfl⟩
        rw [← htl4] at hP hD
        have hx_tl4 : tl4 = x_ps tl3 := by rw [htl4, htp4, hs4]; unfold x_ps; rw [x_en_iv]
        have hc : q_c (x_en tl4) ≤ 2564 := by rw [hx_tl4]; exact x_ps_ec hc
        refine lv_iinc (v := 4) (lv' := [(1, .int 4), (0, .ref (a 0))]) hx hb dX4_encode_73 hl (k := 0) rfl (by decide) (by decide) rfl (fun ls hl => ?_)
        refine lv_goto (tgt := 54) hx hb dX4_encode_76 (by decide) ?_
        refine lv_iload_n hx hb dX4_encode_54 rfl (lv_at hl 0 rfl) ?_
        refine lv_iconst (v := 4) hx hb dX4_encode_55 (by decide) ?_
        refine lv_icmp_ge (tgt := 79) hx hb dX4_encode_56 (by decide) (fun c_5 => ?_) (fun c_5 => absurd (by decide) c_5)
        refine lv_aload_n hx hb dX4_encode_79 rfl (lv_at hl 1 rfl) ?_
        refine va_get (D := D) (ci := 4) (v := .ref (a 3)) (C := RX4) (T := TX4) (N := 5) hx hb hts (fun _ h => List.mem_cons_of_mem _ (List.mem_append_left _ (List.mem_append_left _ (List.mem_append_left _ (List.mem_append_left _ (List.mem_append_right _ h)))))) hown hK hP 0 rfl rfl 1 (by decide) (hts _ (List.mem_of_getElem? (i := 3) rfl)) (fun _ h9 => h9) rfl dX4_encode_80 ?_
        refine va_get (D := D) (ci := 0) (v := .int (nI (q_c (x_en tl4)))) (C := RX0) (T := TX0) (N := 2) hx hb hts (fun _ h => List.mem_cons_of_mem _ (List.mem_append_left _ (List.mem_append_left _ (List.mem_append_left _ (List.mem_append_right _ h))))) hown hK hP 3 rfl rfl 1 (by decide) (hts _ (List.mem_of_getElem? (i := 5) rfl)) (fun _ h9 => h9) rfl dX4_encode_83 ?_
        have hw9 : (mxW cI cL cM a tl4) = (mxW cI cL cM a (x_enc x)) := by (rw [hx_tl4, hx_tl3, hx_tl2, hx_tl1, hv, hjn, hE1]; rfl)
        rw [hw9] at hP hD
        exact W.iret (v := nI (q_c (x_en tl4))) hx hb hr (fun t ht hW => ⟨⟨(nI (q_c (x_en tl4))), (), rfl, by (rw [hx_tl4, hx_tl3, hx_tl2, hx_tl1, hv, hjn, hE1]; rfl), by rw [ht]; exact hP, hD⟩, hS.F ht⟩) hS.2.2 dX4_encode_86
      · replace cj : ¬ (nI (q_c (x_tx x))) ≤ (nI p9) := cj
        have hjn : p9 < q_c (x_tx x) := nge_N (by omega) (by omega) cj
        refine lv_aload_n hx hb dX4_encode_34 rfl (lv_at hl 1 rfl) ?_
        refine lv_aload_n hx hb dX4_encode_35 rfl (lv_at hl 1 rfl) ?_
        refine va_get (D := D) (ci := 4) (v := .ref (a 1)) (C := RX4) (T := TX4) (N := 5) hx hb hts (fun _ h => List.mem_cons_of_mem _ (List.mem_append_left _ (List.mem_append_left _ (List.mem_append_left _ (List.mem_append_left _ (List.mem_append_right _ h)))))) hown hK hP 0 rfl rfl 0 (by decide) (hts _ (List.mem_of_getElem? (i := 4) rfl)) (fun _ h9 => h9) rfl dX4_encode_36 ?_
        refine lv_iload_n hx hb dX4_encode_39 rfl (lv_at hl 0 rfl) ?_
        refine kI (rV (As := [.int (nI p9)]) (rest := [.ref (a 0)]) ⟨hx, hb, hml, hown, hts⟩ (c_X0_at l D cI cL cM _ (a 1) (a 2) 80 (x_tx v) (nI p9) (by rw [hvt]; exact htc) (Nat.le_of_ble_eq_true rfl)) (cwV 1 hts gX4_encode_X0_at rfl rfl rfl (by decide +kernel) ⟨(Nat.le_of_ble_eq_true rfl), (Nat.le_of_ble_eq_true rfl)⟩) hE hP hD [1, 2] rfl rfl rfl rfl rfl hl.1 rfl (Nat.le_of_ble_eq_true rfl) dX4_encode_40 ⟨(Nat.le_of_ble_eq_true rfl), (Nat.le_of_ble_eq_true rfl)⟩) hP hD hS hA (is := [1, 2]) rfl rfl (fun H locs hP hD hS => ?_)
        rw [mxW_tx, xs_tx_self] at hP hD
        have hP : va_P D vwCl (mxW cI cL cM a v) H := hP
        have hD : va_D A (mxW cI cL cM a v) := hD
        refine topI (y := q_at (x_tx e1) (nI p9)) (by rw [hvt, htx1]) ?_
        refine kVa (rVa (As := [.int (q_at (x_tx e1) (nI p9))]) (rest := []) ⟨hx, hb, hml, hown, hts⟩ (c_X4_encodeByte l D cI cL cM _ a v (q_at (x_tx e1) (nI p9)) J hJ hvJ hvc) (cwV 1 hts gX4_encode_X4_encodeByte rfl rfl rfl (by decide +kernel) ⟨(Nat.le_of_ble_eq_true rfl), (Nat.le_of_ble_eq_true rfl)⟩) hE hP hD hS hA 0 rfl rfl rfl hl.1 rfl (Nat.le_of_ble_eq_true rfl) dX4_encode_43 ⟨(Nat.le_of_ble_eq_true rfl), (Nat.le_of_ble_eq_true rfl)⟩) hS (fun H locs hP hD hS => ?_)
        have hP : va_P D vwCl (mxW cI cL cM a (x_byt (q_at (x_tx e1) (nI p9)) 8 v)) H := hP
        have hD : va_D A (mxW cI cL cM a (x_byt (q_at (x_tx e1) (nI p9)) 8 v)) := hD
        refine lv_iinc (v := nI (p9 + 1)) (lv' := [(1, .int (nI (p9 + 1))), (0, .ref (a 0))]) hx hb dX4_encode_46 hl (k := 0) rfl (nI_1 _) (by decide) rfl (fun ls hl => ?_)
        refine lv_goto (tgt := 23) hx hb dX4_encode_49 (by decide) ?_
        exact ih_lpp (p9 + 1) (x_byt (q_at (x_tx e1) (nI p9)) 8 v) (by omega) (by rw [hv]; exact congrArg (fun q => x_byt (q_at (x_tx e1) (nI p9)) 8 q) rfl) (x_byt_J hJ _ _ _ hvJ) ((x_byt_tx _ _ _).trans hvt) (x_byt_ec _ _ _ hvc) (by omega) _ _ hP hD hS ls (lv_sub hl [0, 1] rfl)
  exact lpp _ 0 e1 (Nat.zero_le _) (rfl) (hJ1) (htx1) (hec1) (Nat.lt_succ_self _) _ _ hP hD hS ls (lv_sub hl [0, 1] rfl)
