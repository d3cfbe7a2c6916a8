/-! ===== the law: doubles ===== -/
section KD
variable {p : Program} {l : Launch} {e : Env} {R : Room} {s : State} {m : MethodId} {args : Array Value} {below : List Frame} {meth : Method} {c : Code} {H : Heap} {locs : List Loc} {cells slots : Nat} {Q : State → Prop}
variable {y : MethodName} {bytes cc : ByteArray} {maxL nL n index pc : Nat} {ret : Option FieldType} {wy : List Cond} {rm : Room} {Ts : List Cond} {own C : String} {b : Addr} {As rest st0 : List Value} {ls : Array Slot} {D : va_G} {T : List (ClassId × FieldType)} {A : Nat → Prop} {ws wc w1 : va_W} {d0 : Drawn} {post : UInt64 → Prop}
theorem kD (hd0 : s.drawn.sameBut d0 lw_cs) (S : CallFix p m c cc nL (s.setDrawn d0) args Ts own) (hM : mD l y wy rm D T (va_A wc H.size) (.ref b :: As) wc post w1) (cw : CallW R (s.setDrawn d0) args own C index y bytes maxL ret wy rm 0 0 n)
    (hE : ev D T s) (hP : va_P D vwCl ws H) (hD : va_D A ws) (hS : va_S A s.heap H locs) (hA : ∀ q, s.heap.size ≤ q → A q) (is : List Nat) (hn : va_nd is = true) (hC : is.map (fun i => ws[i]?) = wc.map some) (hf : w1.map Prod.fst = wc.map Prod.fst) {ci : Nat} {T0 : u_T} {N : Nat} {fs : List Value} (hc : vwCl[ci]? = some (C, T0, N)) (he : wc[0]? = some (b, .inr (ci, fs)))
    (hl : As.length = n) (hsize : ls.size = nL) (hst : st0 = As.reverse ++ .ref b :: rest) (hr : (rest.map fun v => v.category).sum ≤ 8) (hdg : decode cc pc = .ok (.invokevirtual index, 3)) (hfit : cells ≤ R.cells ∧ slots ≤ R.slots)
    (kk : ∀ (r : UInt64) (H : Heap) (locs : List Loc) (d1 : Drawn), s.drawn.sameBut d1 lw_cs → post r → va_P D vwCl (putW ws is w1) H → va_D A (putW ws is w1) → va_S A s.heap H locs → W p l e R (s.setDrawn d1) m args below meth c H locs cells slots Q (F0 m (pc + 3) ls (.double r :: rest))) : W p l e R (s.setDrawn d0) m args below meth c H locs cells slots Q (F0 m pc ls st0) :=
  have hE0 : ev D T (s.setDrawn d0) := ev_same rfl hE
  va_calldD hd0 (va_runV_D S hM cw ⟨ho_blind, va_recv hE0.1 (sub_P hP hC) hc he, fun _ hU hW => ⟨rfl, ho_sub hE0 hP hD hn hC hU hW⟩⟩ rfl hl hsize hst (lv_room hr) hdg hfit) hS (fun q _ h => free_A hD hS hA hC q h) (free_A hD hS hA hC)
    (fun r _ t H1 locs1 ht _ hp hB _ hk hS1 d1 hd1 => by
      obtain ⟨g1, g2⟩ := lift1 hP hD hC hf hk (by rw [← ht]; exact hB.1)
      exact kk r H1 locs1 d1 hd1 hp g1 g2 hS1)
end KD
theorem cmp_nan {r q : UInt64} (h1 : isNaN64 r = true) (h2 : isNaN64 q = true) : ¬ Op.cmpValue (FP.dcmp r q) CmpOp.l = 0 := by
  rw [dcmp_nn h1 h2]
  decide
section LAWC
variable {p : Program} {l : Launch} {e : Env} {s : State} {m : MethodId} {below : List Frame} {meth : Method} {c : Code} {sb L : Nat} {xs : Nat → Int32} {D : va_G} {cI cL cM : ClassId} {sa : Nat → Nat} {a bb : Nat → Nat} {o : Nat} {Q : State → Prop} {cells slots n : Nat} {x : Mx} {f : Nat → Int64} {u : RS} {H : Heap} {locs : List Loc} {ls : Array Slot} {A : Nat → Prop}

set_option maxHeartbeats 4000000 in
set_option maxRecDepth 100000 in
theorem lw_meanError {d0 : Drawn} (hd0 : s.drawn.sameBut d0 lw_cs) (C : LCx p l s m c sb L xs D cI cL cM sa A) (hcn : n ≤ 1000000) (hcl : cells + 3 ≤ 601024 ∧ slots + 18 ≤ 7293034) (hR : Rel x u n) (hP : va_P D vwCl (lawW cI cL cM a o bb x f u) H) (hD : va_D A (lawW cI cL cM a o bb x f u)) (hS : va_S A s.heap H locs) (hl : lv_has ls 9 (lvL n sb o a bb)) (nx : ∀ d1 : Drawn, s.drawn.sameBut d1 lw_cs → NX p l e (s.setDrawn d1) m below meth c sb D cI cL cM A a o bb cells slots n Q) : W p l e room_1 (s.setDrawn d0) m #[Value.ref sb] below meth c H locs cells slots Q (F0 m 1162 ls []) := by
  obtain ⟨⟨hnt, hx, hb, hml, hown⟩, hts, hEX, hN, hX, hbl, hbA, hA, hL⟩ := C
  have hE := hEX.1
  refine W.widen (k := cells + 3) (n := slots + 18) (by omega) (by omega) ?_
  refine lv_aload_n hx hb dL_law_1162 rfl (lv_at hl 3 rfl) ?_
  refine kD hd0 (As := []) (rest := []) ⟨hx, hb, hml, hown, dr_words hts _⟩ (c_X4_meanError l D cI cL cM _ a x (hR.btT hcn)) (cwV 0 (dr_words hts _) gL_law_X4_meanError rfl rfl rfl (by decide +kernel) ⟨(Nat.le_of_ble_eq_true rfl), (Nat.le_of_ble_eq_true rfl)⟩) hE hP hD hS hA (segI 0 35) seg35 (lawW_mxC cI cL cM a o bb _ _ _) (mxW_fst cI cL cM a _ _) rfl (mxW_0 cI cL cM a _) rfl hl.1 rfl (Nat.le_of_ble_eq_true rfl) dL_law_1163 ⟨hcl.1, hcl.2⟩ (fun p9 H locs d1 hd1 hp9 hP hD hS => ?_)
  rw [lawW_mxP] at hP hD
  refine lv_dstore (lv' := [(5, .double p9), (4, .int (nI (4 * n))), (3, .ref o), (2, .ref (bb 0)), (1, .ref (a 0)), (0, .ref sb)]) hx hb dL_law_1166 hl (by decide) rfl (fun ls hl => ?_)
  refine lv_aload_n hx hb dL_law_1168 rfl (lv_at hl 3 rfl) ?_
  refine kD hd1 (As := []) (rest := []) ⟨hx, hb, hml, hown, dr_words hts _⟩ (c_X5_meanError l D cI cL cM _ bb u ) (cwV 0 (dr_words hts _) gL_law_X5_meanError rfl rfl rfl (by decide +kernel) ⟨(Nat.le_of_ble_eq_true rfl), (Nat.le_of_ble_eq_true rfl)⟩) hE hP hD hS hA (segI 36 13) seg13 (lawW_rfC cI cL cM a o bb _ _ _) (rfW_fst cI bb _ _) rfl (rfW_0 cI bb _) rfl hl.1 rfl (Nat.le_of_ble_eq_true rfl) dL_law_1169 ⟨hcl.1, hcl.2⟩ (fun q9 H locs d2 hd2 hq9 hP hD hS => ?_)
  rw [lawW_rfP] at hP hD
  refine lv_dstore (lv' := [(7, .double q9), (5, .double p9), (4, .int (nI (4 * n))), (3, .ref o), (2, .ref (bb 0)), (1, .ref (a 0)), (0, .ref sb)]) hx hb dL_law_1172 hl (by decide) rfl (fun ls hl => ?_)
  have hs9 : sameD p9 q9 := mePost_same hp9 (by rw [hR.1.2.1, hR.1.2.2]; exact hq9)
  have fin : ∀ ls : Array Slot, lv_has ls 9 [(7, .double q9), (5, .double p9), (4, .int (nI (4 * n))), (3, .ref o), (2, .ref (bb 0)), (1, .ref (a 0)), (0, .ref sb)] → W p l e room_1 (s.setDrawn d2) m #[Value.ref sb] below meth c H locs (cells + 3) (slots + 18) Q (F0 m 1200 ls []) := fun ls hl => by
    refine lv_goto (tgt := 1589) hx hb dL_law_1200 (by decide) ?_
    exact nx d2 hd2 _ _ _ _ _ _ (Rel_t 0 hR) hP hD hS (lv_sub hl [2, 3, 4, 5, 6] rfl)
  refine lv_dload hx hb dL_law_1174 (lv_at hl 1 rfl) ?_
  refine lv_dload hx hb dL_law_1176 (lv_at hl 0 rfl) ?_
  refine lv_dcmp hx hb dL_law_1178 ?_
  obtain ⟨v1, hv1⟩ : ∃ v, v = Op.cmpValue (FP.dcmp p9 q9) CmpOp.l := ⟨_, rfl⟩
  rw [← hv1]
  refine lv_if_eq (tgt := 1200) hx hb dL_law_1179 (by decide) (fun _ => fin ls hl) (fun g1 => ?_)
  refine lv_dload hx hb dL_law_1182 (lv_at hl 1 rfl) ?_
  refine lv_dload hx hb dL_law_1184 (lv_at hl 1 rfl) ?_
  refine lv_dcmp hx hb dL_law_1186 ?_
  obtain ⟨v2, hv2⟩ : ∃ v, v = Op.cmpValue (FP.dcmp p9 p9) CmpOp.l := ⟨_, rfl⟩
  rw [← hv2]
  have g2 : ¬ v2 = 0 := by
    rcases hs9 with rfl | ⟨n1, n2⟩
    · rw [hv2, ← hv1]; exact g1
    · rw [hv2]; exact cmp_nan n1 n1
  refine lv_if_eq (tgt := 1198) hx hb dL_law_1187 (by decide) (fun h9 => absurd h9 g2) (fun _ => ?_)
  refine lv_dload hx hb dL_law_1190 (lv_at hl 0 rfl) ?_
  refine lv_dload hx hb dL_law_1192 (lv_at hl 0 rfl) ?_
  refine lv_dcmp hx hb dL_law_1194 ?_
  obtain ⟨v3, hv3⟩ : ∃ v, v = Op.cmpValue (FP.dcmp q9 q9) CmpOp.l := ⟨_, rfl⟩
  rw [← hv3]
  have g3 : ¬ v3 = 0 := by
    rcases hs9 with rfl | ⟨n1, n2⟩
    · rw [hv3, ← hv1]; exact g1
    · rw [hv3]; exact cmp_nan n2 n2
  exact lv_if_ne (tgt := 1200) hx hb dL_law_1195 (by decide) (fun _ => fin ls hl) (fun h9 => absurd h9 g3)

set_option maxHeartbeats 4000000 in
set_option maxRecDepth 100000 in
theorem lw_ratio {d0 : Drawn} (hd0 : s.drawn.sameBut d0 lw_cs) (C : LCx p l s m c sb L xs D cI cL cM sa A) (hcn : n ≤ 1000000) (hcl : cells + 3 ≤ 601024 ∧ slots + 18 ≤ 7293034) (hR : Rel x u n) (hP : va_P D vwCl (lawW cI cL cM a o bb x f u) H) (hD : va_D A (lawW cI cL cM a o bb x f u)) (hS : va_S A s.heap H locs) (hl : lv_has ls 9 (lvL n sb o a bb)) (nx : ∀ d1 : Drawn, s.drawn.sameBut d1 lw_cs → NX p l e (s.setDrawn d1) m below meth c sb D cI cL cM A a o bb cells slots n Q) : W p l e room_1 (s.setDrawn d0) m #[Value.ref sb] below meth c H locs cells slots Q (F0 m 1534 ls []) := by
  obtain ⟨⟨hnt, hx, hb, hml, hown⟩, hts, hEX, hN, hX, hbl, hbA, hA, hL⟩ := C
  have hE := hEX.1
  refine W.widen (k := cells + 3) (n := slots + 18) (by omega) (by omega) ?_
  refine lv_aload_n hx hb dL_law_1534 rfl (lv_at hl 3 rfl) ?_
  refine kD hd0 (As := []) (rest := []) ⟨hx, hb, hml, hown, dr_words hts _⟩ (c_X4_ratio l D cI cL cM _ a x hR.tc) (cwV 0 (dr_words hts _) gL_law_X4_ratio rfl rfl rfl (by decide +kernel) ⟨(Nat.le_of_ble_eq_true rfl), (Nat.le_of_ble_eq_true rfl)⟩) hE hP hD hS hA (segI 0 35) seg35 (lawW_mxC cI cL cM a o bb _ _ _) (mxW_fst cI cL cM a _ _) rfl (mxW_0 cI cL cM a _) rfl hl.1 rfl (Nat.le_of_ble_eq_true rfl) dL_law_1535 ⟨hcl.1, hcl.2⟩ (fun p9 H locs d1 hd1 hp9 hP hD hS => ?_)
  rw [lawW_mxP] at hP hD
  refine lv_dstore (lv' := [(5, .double p9), (4, .int (nI (4 * n))), (3, .ref o), (2, .ref (bb 0)), (1, .ref (a 0)), (0, .ref sb)]) hx hb dL_law_1538 hl (by decide) rfl (fun ls hl => ?_)
  refine lv_aload_n hx hb dL_law_1540 rfl (lv_at hl 3 rfl) ?_
  refine kD hd1 (As := []) (rest := []) ⟨hx, hb, hml, hown, dr_words hts _⟩ (c_X5_ratio l D cI cL cM _ bb u ) (cwV 0 (dr_words hts _) gL_law_X5_ratio rfl rfl rfl (by decide +kernel) ⟨(Nat.le_of_ble_eq_true rfl), (Nat.le_of_ble_eq_true rfl)⟩) hE hP hD hS hA (segI 36 13) seg13 (lawW_rfC cI cL cM a o bb _ _ _) (rfW_fst cI bb _ _) rfl (rfW_0 cI bb _) rfl hl.1 rfl (Nat.le_of_ble_eq_true rfl) dL_law_1541 ⟨hcl.1, hcl.2⟩ (fun q9 H locs d2 hd2 hq9 hP hD hS => ?_)
  rw [lawW_rfP] at hP hD
  refine lv_dstore (lv' := [(7, .double q9), (5, .double p9), (4, .int (nI (4 * n))), (3, .ref o), (2, .ref (bb 0)), (1, .ref (a 0)), (0, .ref sb)]) hx hb dL_law_1544 hl (by decide) rfl (fun ls hl => ?_)
  have hs9 : sameD p9 q9 := raPost_same hp9 (by rw [hR.2.2.1.1.1, hR.2.2.2.1.1.1]; exact hq9)
  have fin : ∀ ls : Array Slot, lv_has ls 9 [(7, .double q9), (5, .double p9), (4, .int (nI (4 * n))), (3, .ref o), (2, .ref (bb 0)), (1, .ref (a 0)), (0, .ref sb)] → W p l e room_1 (s.setDrawn d2) m #[Value.ref sb] below meth c H locs (cells + 3) (slots + 18) Q (F0 m 1572 ls []) := fun ls hl => by
    refine lv_goto (tgt := 1589) hx hb dL_law_1572 (by decide) ?_
    exact nx d2 hd2 _ _ _ _ _ _ (Rel_t 0 hR) hP hD hS (lv_sub hl [2, 3, 4, 5, 6] rfl)
  refine lv_dload hx hb dL_law_1546 (lv_at hl 1 rfl) ?_
  refine lv_dload hx hb dL_law_1548 (lv_at hl 0 rfl) ?_
  refine lv_dcmp hx hb dL_law_1550 ?_
  obtain ⟨v1, hv1⟩ : ∃ v, v = Op.cmpValue (FP.dcmp p9 q9) CmpOp.l := ⟨_, rfl⟩
  rw [← hv1]
  refine lv_if_eq (tgt := 1572) hx hb dL_law_1551 (by decide) (fun _ => fin ls hl) (fun g1 => ?_)
  refine lv_dload hx hb dL_law_1554 (lv_at hl 1 rfl) ?_
  refine lv_dload hx hb dL_law_1556 (lv_at hl 1 rfl) ?_
  refine lv_dcmp hx hb dL_law_1558 ?_
  obtain ⟨v2, hv2⟩ : ∃ v, v = Op.cmpValue (FP.dcmp p9 p9) CmpOp.l := ⟨_, rfl⟩
  rw [← hv2]
  have g2 : ¬ v2 = 0 := by
    rcases hs9 with rfl | ⟨n1, n2⟩
    · rw [hv2, ← hv1]; exact g1
    · rw [hv2]; exact cmp_nan n1 n1
  refine lv_if_eq (tgt := 1570) hx hb dL_law_1559 (by decide) (fun h9 => absurd h9 g2) (fun _ => ?_)
  refine lv_dload hx hb dL_law_1562 (lv_at hl 0 rfl) ?_
  refine lv_dload hx hb dL_law_1564 (lv_at hl 0 rfl) ?_
  refine lv_dcmp hx hb dL_law_1566 ?_
  obtain ⟨v3, hv3⟩ : ∃ v, v = Op.cmpValue (FP.dcmp q9 q9) CmpOp.l := ⟨_, rfl⟩
  rw [← hv3]
  have g3 : ¬ v3 = 0 := by
    rcases hs9 with rfl | ⟨n1, n2⟩
    · rw [hv3, ← hv1]; exact g1
    · rw [hv3]; exact cmp_nan n2 n2
  exact lv_if_ne (tgt := 1572) hx hb dL_law_1567 (by decide) (fun _ => fin ls hl) (fun h9 => absurd h9 g3)

set_option maxHeartbeats 4000000 in
set_option maxRecDepth 100000 in
theorem lw_observe0 (C : LCx p l s m c sb L xs D cI cL cM sa A) (hn : 4 * n + 4 ≤ L) (hcl : cells + 3 ≤ 601024 ∧ slots + 18 ≤ 7293034) (hR : Rel x u n) (hz9 : (xs (nI (4 * n) + 1).toNatClampNeg) = 0) (hP : va_P D vwCl (lawW cI cL cM a o bb x f u) H) (hD : va_D A (lawW cI cL cM a o bb x f u)) (hS : va_S A s.heap H locs) (hl : lv_has ls 9 (lvL n sb o a bb)) (nx : NX p l e s m below meth c sb D cI cL cM A a o bb cells slots n Q) : W p l e room_1 s m #[Value.ref sb] below meth c H locs cells slots Q (F0 m 695 ls []) := by
  obtain ⟨⟨hnt, hx, hb, hml, hown⟩, hts, hEX, hN, hX, hbl, hbA, hA, hL⟩ := C
  have hE := hEX.1
  have hK := hE.1
  have i1 : vp_in (nI (4 * n) + 1) L := sc_in (k := 1) hL hn (by omega)
  have i2 : vp_in (nI (4 * n) + 2) L := sc_in (k := 2) hL hn (by omega)
  have i3 : vp_in (nI (4 * n) + 3) L := sc_in (k := 3) hL hn (by omega)
  refine W.widen (k := cells + 3) (n := slots + 18) (by omega) (by omega) ?_
  refine lv_aload_n hx hb dL_law_695 rfl (lv_at hl 3 rfl) ?_
  refine lv_aload_n hx hb dL_law_696 rfl (lv_at hl 4 rfl) ?_
  refine lv_iload hx hb dL_law_697 (lv_at hl 0 rfl) ?_
  refine lv_iconst (v := 1) hx hb dL_law_699 (by decide) ?_
  refine lv_iadd hx hb dL_law_700 ?_
  refine va_sld hx hb hX hbl hbA hS i1 dL_law_701 ?_
  refine lv_if_eq (tgt := 709) hx hb dL_law_702 (by decide) (fun _ => ?_) (fun h9 => absurd hz9 h9)
  refine lv_iconst (v := 0) hx hb dL_law_709 (by decide) ?_
  refine kI (rV (As := [.int 0]) (rest := []) ⟨hx, hb, hml, hown, hts⟩ (c_X4_observe l D cI cL cM _ a x 0 hR.n6 hR.pv.2.1.2.2 (PV_ph hR.pv) (PV_pl hR.pv)) (cwV 1 hts gL_law_X4_observe rfl rfl rfl (by decide +kernel) ⟨(Nat.le_of_ble_eq_true rfl), (Nat.le_of_ble_eq_true rfl)⟩) hE hP hD (segI 0 35) seg35 (lawW_mxC cI cL cM a o bb _ _ _) rfl (mxW_0 cI cL cM a _) rfl hl.1 rfl (Nat.le_of_ble_eq_true rfl) dL_law_710 ⟨hcl.1, hcl.2⟩) hP hD hS hA (is := (segI 0 35)) (lawW_mxC cI cL cM a o bb _ _ _) (mxW_fst cI cL cM a _ _) (fun H locs hP hD hS => ?_)
  rw [lawW_mxP] at hP hD
  refine lv_topi (fun p9 hp9 => ?_)
  refine lv_aload_n hx hb dL_law_713 rfl (lv_at hl 2 rfl) ?_
  refine lv_aload_n hx hb dL_law_714 rfl (lv_at hl 4 rfl) ?_
  refine lv_iload hx hb dL_law_715 (lv_at hl 0 rfl) ?_
  refine lv_iconst (v := 1) hx hb dL_law_717 (by decide) ?_
  refine lv_iadd hx hb dL_law_718 ?_
  refine va_sld hx hb hX hbl hbA hS i1 dL_law_719 ?_
  refine lv_if_eq (tgt := 727) hx hb dL_law_720 (by decide) (fun _ => ?_) (fun h9 => absurd hz9 h9)
  refine lv_iconst (v := 0) hx hb dL_law_727 (by decide) ?_
  refine kI (rV (As := [.int 0]) (rest := [.int p9]) ⟨hx, hb, hml, hown, hts⟩ (c_X5_observe l D cI cL cM _ bb u 0 (PV_RSf hR.pv) (PV_RT hR.pv)) (cwV 1 hts gL_law_X5_observe rfl rfl rfl (by decide +kernel) ⟨(Nat.le_of_ble_eq_true rfl), (Nat.le_of_ble_eq_true rfl)⟩) hE hP hD (segI 36 13) seg13 (lawW_rfC cI cL cM a o bb _ _ _) rfl (rfW_0 cI bb _) rfl hl.1 rfl (Nat.le_of_ble_eq_true rfl) dL_law_728 ⟨hcl.1, hcl.2⟩) hP hD hS hA (is := (segI 36 13)) (lawW_rfC cI cL cM a o bb _ _ _) (rfW_fst cI bb _ _) (fun H locs hP hD hS => ?_)
  rw [lawW_rfP] at hP hD
  refine lv_topi (fun r9 hr9 => ?_)
  refine lv_icmp_eq (tgt := 1589) hx hb dL_law_731 (by decide) (fun _ => ?_) (fun h9 => absurd (by rw [hp9, hr9, (cl_observe hR 0).1]) h9)
  exact nx _ _ _ _ _ _ (cl_observe hR 0).2 hP hD hS (lv_sub hl [0, 1, 2, 3, 4] rfl)

set_option maxHeartbeats 4000000 in
set_option maxRecDepth 100000 in
theorem lw_observe1 (C : LCx p l s m c sb L xs D cI cL cM sa A) (hn : 4 * n + 4 ≤ L) (hcl : cells + 3 ≤ 601024 ∧ slots + 18 ≤ 7293034) (hR : Rel x u n) (hz9 : ¬ (xs (nI (4 * n) + 1).toNatClampNeg) = 0) (hP : va_P D vwCl (lawW cI cL cM a o bb x f u) H) (hD : va_D A (lawW cI cL cM a o bb x f u)) (hS : va_S A s.heap H locs) (hl : lv_has ls 9 (lvL n sb o a bb)) (nx : NX p l e s m below meth c sb D cI cL cM A a o bb cells slots n Q) : W p l e room_1 s m #[Value.ref sb] below meth c H locs cells slots Q (F0 m 695 ls []) := by
  obtain ⟨⟨hnt, hx, hb, hml, hown⟩, hts, hEX, hN, hX, hbl, hbA, hA, hL⟩ := C
  have hE := hEX.1
  have hK := hE.1
  have i1 : vp_in (nI (4 * n) + 1) L := sc_in (k := 1) hL hn (by omega)
  have i2 : vp_in (nI (4 * n) + 2) L := sc_in (k := 2) hL hn (by omega)
  have i3 : vp_in (nI (4 * n) + 3) L := sc_in (k := 3) hL hn (by omega)
  refine W.widen (k := cells + 3) (n := slots + 18) (by omega) (by omega) ?_
  refine lv_aload_n hx hb dL_law_695 rfl (lv_at hl 3 rfl) ?_
  refine lv_aload_n hx hb dL_law_696 rfl (lv_at hl 4 rfl) ?_
  refine lv_iload hx hb dL_law_697 (lv_at hl 0 rfl) ?_
  refine lv_iconst (v := 1) hx hb dL_law_699 (by decide) ?_
  refine lv_iadd hx hb dL_law_700 ?_
  refine va_sld hx hb hX hbl hbA hS i1 dL_law_701 ?_
  refine lv_if_eq (tgt := 709) hx hb dL_law_702 (by decide) (fun h9 => absurd h9 hz9) (fun _ => ?_)
  refine lv_iconst (v := 1) hx hb dL_law_705 (by decide) ?_
  refine lv_goto (tgt := 710) hx hb dL_law_706 (by decide) ?_
  refine kI (rV (As := [.int 1]) (rest := []) ⟨hx, hb, hml, hown, hts⟩ (c_X4_observe l D cI cL cM _ a x 1 hR.n6 hR.pv.2.1.2.2 (PV_ph hR.pv) (PV_pl hR.pv)) (cwV 1 hts gL_law_X4_observe rfl rfl rfl (by decide +kernel) ⟨(Nat.le_of_ble_eq_true rfl), (Nat.le_of_ble_eq_true rfl)⟩) hE hP hD (segI 0 35) seg35 (lawW_mxC cI cL cM a o bb _ _ _) rfl (mxW_0 cI cL cM a _) rfl hl.1 rfl (Nat.le_of_ble_eq_true rfl) dL_law_710 ⟨hcl.1, hcl.2⟩) hP hD hS hA (is := (segI 0 35)) (lawW_mxC cI cL cM a o bb _ _ _) (mxW_fst cI cL cM a _ _) (fun H locs hP hD hS => ?_)
  rw [lawW_mxP] at hP hD
  refine lv_topi (fun p9 hp9 => ?_)
  refine lv_aload_n hx hb dL_law_713 rfl (lv_at hl 2 rfl) ?_
  refine lv_aload_n hx hb dL_law_714 rfl (lv_at hl 4 rfl) ?_
  refine lv_iload hx hb dL_law_715 (lv_at hl 0 rfl) ?_
  refine lv_iconst (v := 1) hx hb dL_law_717 (by decide) ?_
  refine lv_iadd hx hb dL_law_718 ?_
  refine va_sld hx hb hX hbl hbA hS i1 dL_law_719 ?_
  refine lv_if_eq (tgt := 727) hx hb dL_law_720 (by decide) (fun h9 => absurd h9 hz9) (fun _ => ?_)
  refine lv_iconst (v := 1) hx hb dL_law_723 (by decide) ?_
  refine lv_goto (tgt := 728) hx hb dL_law_724 (by decide) ?_
  refine kI (rV (As := [.int 1]) (rest := [.int p9]) ⟨hx, hb, hml, hown, hts⟩ (c_X5_observe l D cI cL cM _ bb u 1 (PV_RSf hR.pv) (PV_RT hR.pv)) (cwV 1 hts gL_law_X5_observe rfl rfl rfl (by decide +kernel) ⟨(Nat.le_of_ble_eq_true rfl), (Nat.le_of_ble_eq_true rfl)⟩) hE hP hD (segI 36 13) seg13 (lawW_rfC cI cL cM a o bb _ _ _) rfl (rfW_0 cI bb _) rfl hl.1 rfl (Nat.le_of_ble_eq_true rfl) dL_law_728 ⟨hcl.1, hcl.2⟩) hP hD hS hA (is := (segI 36 13)) (lawW_rfC cI cL cM a o bb _ _ _) (rfW_fst cI bb _ _) (fun H locs hP hD hS => ?_)
  rw [lawW_rfP] at hP hD
  refine lv_topi (fun r9 hr9 => ?_)
  refine lv_icmp_eq (tgt := 1589) hx hb dL_law_731 (by decide) (fun _ => ?_) (fun h9 => absurd (by rw [hp9, hr9, (cl_observe hR 1).1]) h9)
  exact nx _ _ _ _ _ _ (cl_observe hR 1).2 hP hD hS (lv_sub hl [0, 1, 2, 3, 4] rfl)

end LAWC
