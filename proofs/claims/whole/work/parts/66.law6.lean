/-! ===== the law: its loop ===== -/
section LAWC
variable {p : Program} {l : Launch} {e : Env} {s : State} {m : MethodId} {below : List Frame} {meth : Method} {c : Code} {sb L : Nat} {xs : Nat → Int32} {D : va_G} {cI cL cM : ClassId} {sa : Nat → Nat} {a bb : Nat → Nat} {o : Nat} {Q : State → Prop} {cells slots n : Nat} {x : Mx} {f : Nat → Int64} {u : RS} {H : Heap} {locs : List Loc} {ls : Array Slot} {A : Nat → Prop}

set_option maxHeartbeats 4000000 in
set_option maxRecDepth 100000 in
theorem lw_switch {d0 : Drawn} (hd0 : s.drawn.sameBut d0 lw_cs) (C : LCx p l s m c sb L xs D cI cL cM sa A) (hn : 4 * n + 4 ≤ L) (hcl : cells + 3 ≤ 601024 ∧ slots + 18 ≤ 7293034) (hR : Rel x u n) (hP : va_P D vwCl (lawW cI cL cM a o bb x f u) H) (hD : va_D A (lawW cI cL cM a o bb x f u)) (hS : va_S A s.heap H locs) (hl : lv_has ls 9 (lvL n sb o a bb)) (nx : ∀ d1 : Drawn, s.drawn.sameBut d1 lw_cs → NX p l e (s.setDrawn d1) m below meth c sb D cI cL cM A a o bb cells slots n Q) {j : Nat} (hj : j < 64) : W p l e room_1 (s.setDrawn d0) m #[Value.ref sb] below meth c H locs cells slots Q (F0 m 39 ls [.int (nI j)]) := by
  have C0 := C
  obtain ⟨⟨hnt, hx, hb, hml, hown⟩, hts, hEX, hN, hX, hbl, hbA, hA, hL⟩ := C
  have C1 : LCx p l (s.setDrawn d0) m c sb L xs D cI cL cM sa A := ⟨⟨hnt, hx, hb, hml, hown⟩, dr_words hts d0, evX_same (s := s) (U := s.setDrawn d0) rfl rfl hEX, ⟨va_Nc.moved (u := s) (U := s.setDrawn d0) (Vm.Alike.refl s.vm) hN.1, va_Nc.moved (u := s) (U := s.setDrawn d0) (Vm.Alike.refl s.vm) hN.2⟩, hX, hbl, hbA, hA, hL⟩
  have hj0 : (nI j).toInt = (j : Int) := nI_toInt (by omega)
  by_cases g : 32 < j
  · refine lv_tableOut (tgt := 1589) hx hb dL_law_39 (Or.inr (by rw [hj0]; omega)) (by decide) ?_
    refine W.widen (k := cells + 3) (n := slots + 18) (by omega) (by omega) ?_
    exact nx d0 hd0 _ _ _ _ _ _ (Rel_s hR) hP hD hS hl
  rcases (show j = 0 ∨ j = 1 ∨ j = 2 ∨ j = 3 ∨ j = 4 ∨ j = 5 ∨ j = 6 ∨ j = 7 ∨ j = 8 ∨ j = 9 ∨ j = 10 ∨ j = 11 ∨ j = 12 ∨ j = 13 ∨ j = 14 ∨ j = 15 ∨ j = 16 ∨ j = 17 ∨ j = 18 ∨ j = 19 ∨ j = 20 ∨ j = 21 ∨ j = 22 ∨ j = 23 ∨ j = 24 ∨ j = 25 ∨ j = 26 ∨ j = 27 ∨ j = 28 ∨ j = 29 ∨ j = 30 ∨ j = 31 ∨ j = 32 by omega) with rfl | rfl | rfl | rfl | rfl | rfl | rfl | rfl | rfl | rfl | rfl | rfl | rfl | rfl | rfl | rfl | rfl | rfl | rfl | rfl | rfl | rfl | rfl | rfl | rfl | rfl | rfl | rfl | rfl | rfl | rfl | rfl | rfl
  · refine lv_tableIn (off := 145) (tgt := 184) hx hb dL_law_39 (by decide) (by decide) (by decide) (by decide) ?_
    exact lw_addModel C1 hn hcl hR hP hD hS hl (nx d0 hd0)
  · refine lv_tableIn (off := 225) (tgt := 264) hx hb dL_law_39 (by decide) (by decide) (by decide) (by decide) ?_
    exact lw_removeModel C1 hn hcl hR hP hD hS hl (nx d0 hd0)
  · refine lv_tableIn (off := 269) (tgt := 308) hx hb dL_law_39 (by decide) (by decide) (by decide) (by decide) ?_
    exact lw_setRate C1 hn hcl hR hP hD hS hl (nx d0 hd0)
  · refine lv_tableIn (off := 337) (tgt := 376) hx hb dL_law_39 (by decide) (by decide) (by decide) (by decide) ?_
    exact lw_modelCount C1 hn hcl hR hP hD hS hl (nx d0 hd0)
  · refine lv_tableIn (off := 350) (tgt := 389) hx hb dL_law_39 (by decide) (by decide) (by decide) (by decide) ?_
    exact lw_feed C1 hn hcl hR hP hD hS hl (nx d0 hd0)
  · refine lv_tableIn (off := 450) (tgt := 489) hx hb dL_law_39 (by decide) (by decide) (by decide) (by decide) ?_
    exact lw_fill C1 hn hcl hR hP hD hS hl (nx d0 hd0)
  · refine lv_tableIn (off := 518) (tgt := 557) hx hb dL_law_39 (by decide) (by decide) (by decide) (by decide) ?_
    exact lw_cut C1 hn hcl hR hP hD hS hl (nx d0 hd0)
  · refine lv_tableIn (off := 574) (tgt := 613) hx hb dL_law_39 (by decide) (by decide) (by decide) (by decide) ?_
    exact lw_size C1 hn hcl hR hP hD hS hl (nx d0 hd0)
  · refine lv_tableIn (off := 587) (tgt := 626) hx hb dL_law_39 (by decide) (by decide) (by decide) (by decide) ?_
    exact lw_byteAt C1 hn hcl hR hP hD hS hl (nx d0 hd0)
  · refine lv_tableIn (off := 643) (tgt := 682) hx hb dL_law_39 (by decide) (by decide) (by decide) (by decide) ?_
    exact lw_reset C1 hn hcl hR hP hD hS hl (nx d0 hd0)
  · refine lv_tableIn (off := 656) (tgt := 695) hx hb dL_law_39 (by decide) (by decide) (by decide) (by decide) ?_
    by_cases hz9 : (xs (nI (4 * n) + 1).toNatClampNeg) = 0
    · exact lw_observe0 C1 hn hcl hR hz9 hP hD hS hl (nx d0 hd0)
    · exact lw_observe1 C1 hn hcl hR hz9 hP hD hS hl (nx d0 hd0)
  · refine lv_tableIn (off := 697) (tgt := 736) hx hb dL_law_39 (by decide) (by decide) (by decide) (by decide) ?_
    exact lw_mixed C1 hn hcl hR hP hD hS hl (nx d0 hd0)
  · refine lv_tableIn (off := 710) (tgt := 749) hx hb dL_law_39 (by decide) (by decide) (by decide) (by decide) ?_
    exact lw_prediction C1 hn hcl hR hP hD hS hl (nx d0 hd0)
  · refine lv_tableIn (off := 766) (tgt := 805) hx hb dL_law_39 (by decide) (by decide) (by decide) (by decide) ?_
    exact lw_index C1 hn hcl hR hP hD hS hl (nx d0 hd0)
  · refine lv_tableIn (off := 822) (tgt := 861) hx hb dL_law_39 (by decide) (by decide) (by decide) (by decide) ?_
    exact lw_counter C1 hn hcl hR hP hD hS hl (nx d0 hd0)
  · refine lv_tableIn (off := 890) (tgt := 929) hx hb dL_law_39 (by decide) (by decide) (by decide) (by decide) ?_
    exact lw_weight C1 hn hcl hR hP hD hS hl (nx d0 hd0)
  · refine lv_tableIn (off := 958) (tgt := 997) hx hb dL_law_39 (by decide) (by decide) (by decide) (by decide) ?_
    exact lw_leader C1 hn hcl hR hP hD hS hl (nx d0 hd0)
  · refine lv_tableIn (off := 971) (tgt := 1010) hx hb dL_law_39 (by decide) (by decide) (by decide) (by decide) ?_
    exact lw_collisions C1 hn hcl hR hP hD hS hl (nx d0 hd0)
  · refine lv_tableIn (off := 1027) (tgt := 1066) hx hb dL_law_39 (by decide) (by decide) (by decide) (by decide) ?_
    exact lw_history C1 hn hcl hR hP hD hS hl (nx d0 hd0)
  · refine lv_tableIn (off := 1083) (tgt := 1122) hx hb dL_law_39 (by decide) (by decide) (by decide) (by decide) ?_
    exact lw_node C1 hn hcl hR hP hD hS hl (nx d0 hd0)
  · refine lv_tableIn (off := 1096) (tgt := 1135) hx hb dL_law_39 (by decide) (by decide) (by decide) (by decide) ?_
    exact lw_observed C1 hn hcl hR hP hD hS hl (nx d0 hd0)
  · refine lv_tableIn (off := 1109) (tgt := 1148) hx hb dL_law_39 (by decide) (by decide) (by decide) (by decide) ?_
    exact lw_error C1 hn hcl hR hP hD hS hl (nx d0 hd0)
  · refine lv_tableIn (off := 1123) (tgt := 1162) hx hb dL_law_39 (by decide) (by decide) (by decide) (by decide) ?_
    exact lw_meanError hd0 C0 (by omega) hcl hR hP hD hS hl nx
  · refine lv_tableIn (off := 1164) (tgt := 1203) hx hb dL_law_39 (by decide) (by decide) (by decide) (by decide) ?_
    exact lw_encode C1 hn hcl hR hP hD hS hl (nx d0 hd0)
  · refine lv_tableIn (off := 1177) (tgt := 1216) hx hb dL_law_39 (by decide) (by decide) (by decide) (by decide) ?_
    exact lw_codeSize C1 hn hcl hR hP hD hS hl (nx d0 hd0)
  · refine lv_tableIn (off := 1190) (tgt := 1229) hx hb dL_law_39 (by decide) (by decide) (by decide) (by decide) ?_
    exact lw_code C1 hn hcl hR hP hD hS hl (nx d0 hd0)
  · refine lv_tableIn (off := 1246) (tgt := 1285) hx hb dL_law_39 (by decide) (by decide) (by decide) (by decide) ?_
    exact lw_setCode C1 hn hcl hR hP hD hS hl (nx d0 hd0)
  · refine lv_tableIn (off := 1314) (tgt := 1353) hx hb dL_law_39 (by decide) (by decide) (by decide) (by decide) ?_
    exact lw_cutCode C1 hn hcl hR hP hD hS hl (nx d0 hd0)
  · refine lv_tableIn (off := 1370) (tgt := 1409) hx hb dL_law_39 (by decide) (by decide) (by decide) (by decide) ?_
    exact lw_decode C1 hn hcl hR hP hD hS hl (nx d0 hd0)
  · refine lv_tableIn (off := 1426) (tgt := 1465) hx hb dL_law_39 (by decide) (by decide) (by decide) (by decide) ?_
    exact lw_outputSize C1 hn hcl hR hP hD hS hl (nx d0 hd0)
  · refine lv_tableIn (off := 1439) (tgt := 1478) hx hb dL_law_39 (by decide) (by decide) (by decide) (by decide) ?_
    exact lw_output C1 hn hcl hR hP hD hS hl (nx d0 hd0)
  · refine lv_tableIn (off := 1495) (tgt := 1534) hx hb dL_law_39 (by decide) (by decide) (by decide) (by decide) ?_
    exact lw_ratio hd0 C0 (by omega) hcl hR hP hD hS hl nx
  · refine lv_tableIn (off := 1536) (tgt := 1575) hx hb dL_law_39 (by decide) (by decide) (by decide) (by decide) ?_
    exact lw_digest C1 hn hcl hR hP hD hS hl (nx d0 hd0)

set_option maxHeartbeats 4000000 in
set_option maxRecDepth 100000 in
theorem lw_loop (hr : meth.sig.returnType = ret) (hlocks : meth.locks = false) (C : LCx p l s m c sb L xs D cI cL cM sa (fun q : Nat => s.heap.size ≤ q)) : ∀ (k n : Nat), L + 4 < 4 * n + k → 4 * n ≤ L + 4 → ∀ (d0 : Drawn), s.drawn.sameBut d0 lw_cs → ∀ (x : Mx) (f : Nat → Int64) (u : RS) (H : Heap) (locs : List Loc) (ls : Array Slot), Rel x u n → va_P D vwCl (lawW cI cL cM a o bb x f u) H → va_D (fun q : Nat => s.heap.size ≤ q) (lawW cI cL cM a o bb x f u) → va_S (fun q : Nat => s.heap.size ≤ q) s.heap H locs → lv_has ls 9 (lvL n sb o a bb) → W p l e room_1 (s.setDrawn d0) m #[Value.ref sb] below meth c H locs (49 + 3 * n) (21481 + 18 * n) (lw_Z below #[Value.ref sb] s) (F0 m 23 ls [])
  | 0, n, h1, h2 => by omega
  | k + 1, n, h1, h2 => by
    intro d0 hd0 x f u H locs ls hR hP hD hS hl
    have C0 := C
    obtain ⟨⟨hnt, hx, hb, hml, hown⟩, hts, hEX, hN, hX, hbl, hbA, hA, hL⟩ := C
    refine lv_iload hx hb dL_law_23 (lv_at hl 0 rfl) ?_
    refine lv_aload_n hx hb dL_law_25 rfl (lv_at hl 4 rfl) ?_
    refine va_slen hx hb hX hbl hbA hS dL_law_26 ?_
    refine lv_iconst (v := 4) hx hb dL_law_27 (by decide) ?_
    refine lv_isub hx hb dL_law_28 ?_
    have eL : (Int32.ofNat L - 4 : Int32).toInt = (L : Int) - 4 := by
      have q : (nI L - nI 4).toInt = (L : Int) - (4 : Nat) := pk_sub_toInt (by omega) (by omega)
      exact q
    refine lv_icmp_gt (tgt := 1595) hx hb dL_law_29 (by decide) (fun g => ?_) (fun g => ?_)
    · refine lv_iconst (v := 1) hx hb dL_law_1595 (by decide) ?_
      refine va_forget (fun q hq => hS.2.2 q hq) ?_
      refine W.widen (k := 601024) (n := 7293034) (by omega) (by omega) ?_
      exact lw_ret hd0 hx hb hr hlocks dL_law_1596
    · have hn : 4 * n + 4 ≤ L := by
        have g9 : ¬ (Int32.ofNat L - 4 : Int32) < nI (4 * n) := g
        rw [Int32.lt_iff_toInt_lt, eL, nI_toInt (by omega)] at g9
        omega
      refine lv_aload_n hx hb dL_law_32 rfl (lv_at hl 4 rfl) ?_
      refine lv_iload hx hb dL_law_33 (lv_at hl 0 rfl) ?_
      have i0 : vp_in (nI (4 * n)) L := vin (by rw [nI_toInt (by omega)]; omega) (by rw [nI_toInt (by omega)]; omega)
      have hX0 : va_X sb L xs (s.setDrawn d0) s.heap := hX
      refine va_sld hx hb hX0 hbl hbA hS i0 dL_law_35 ?_
      refine lv_bipush (v := 63) hx hb dL_law_36 (by decide) ?_
      refine lv_iand hx hb dL_law_38 ?_
      obtain ⟨j, hj, ej⟩ := pk_andE (xs (nI (4 * n)).toNatClampNeg) (m := 63) 6 (by decide)
      rw [ej]
      refine lw_switch hd0 C0 hn (by omega) hR hP hD hS hl (fun d1 hd1 x f u H locs ls hR hP hD hS hl => ?_) hj
      refine lv_iinc (v := nI (4 * (n + 1))) (lv' := lvL (n + 1) sb o a bb) hx hb dL_law_1589 hl (k := 0) rfl (by rw [show 4 * (n + 1) = 4 * n + 4 by omega]; exact nI_add (4 * n) 4) (by decide) rfl (fun ls hl => ?_)
      refine lv_goto (tgt := 23) hx hb dL_law_1592 (by decide) ?_
      exact lw_loop hr hlocks C0 k (n + 1) (by omega) (by omega) d1 hd1 x f u H locs ls hR hP hD hS hl
end LAWC
