/-! ===== BitMixer: digest ===== -/
section MXM
variable (cI cL cM : ClassId) (a : Nat → Nat) (x : Mx) {m : Nat}
theorem mxW_o (h : m < 6) : (mxW cI cL cM a x)[10 + 4 * m]? = some (a (11 + 4 * m), .inr (2, [.int (o_od (k_mo (x_pr x) m)), .int (o_rt (k_mo (x_pr x) m)), .int (o_t (k_mo (x_pr x) m)), .ref (a (12 + 4 * m)), .ref (a (13 + 4 * m)), .ref (a (14 + 4 * m)), .int (o_cn (k_mo (x_pr x) m)), .int (o_cx (k_mo (x_pr x) m)), .long (o_si (k_mo (x_pr x) m)), .int (o_pl (k_mo (x_pr x) m))])) := by
  match m, h with
  | 0, _ => rfl
  | 1, _ => rfl
  | 2, _ => rfl
  | 3, _ => rfl
  | 4, _ => rfl
  | 5, _ => rfl
theorem mxW_w (h : m < 6) : (mxW cI cL cM a x)[13 + 4 * m]? = some (a (14 + 4 * m), .inl (cI, 8, .inl (o_we (k_mo (x_pr x) m)))) := by
  match m, h with
  | 0, _ => rfl
  | 1, _ => rfl
  | 2, _ => rfl
  | 3, _ => rfl
  | 4, _ => rfl
  | 5, _ => rfl
end MXM
def dgq (r : Row) (d : Int64) : Nat → Int64
  | 0 => d
  | k + 1 => dgq r d k * 31 + (q_at r (nI k)).toInt64
def q_dig (d : Int64) (r : Row) : Int64 := dgq r (d * 31 + (nI (q_c r)).toInt64) (q_c r)
def dxw (o : Mo) : Nat → Int64 → Int64
  | 0, d => d
  | q + 1, d => dxw o q d * 31 + (o_we o q).toInt64
def dxm (k : Pr) (d : Int64) : Nat → Int64
  | 0 => d
  | j + 1 => dxw (k_mo k j) 8 (((dxm k d j * 31 + (o_od (k_mo k j)).toInt64) * 31 + (o_rt (k_mo k j)).toInt64) * 31 + (o_t (k_mo k j)).toInt64) * 31 + (o_cn (k_mo k j)).toInt64
def x_dm (d : Int64) (k : Pr) : Int64 := dxm k (d * 31 + (nI (k_n k)).toInt64) (k_n k)
def x_dig (x : Mx) : Int64 := q_dig (q_dig (((q_dig (x_dm 103 (x_pr x)) (x_tx x) * 31 + (nI (k_nd (x_pr x))).toInt64) * 31 + (k_bt (x_pr x)).toInt64) * 31 + k_er (x_pr x)) (x_en x)) (x_de x)

set_option maxHeartbeats 4000000 in
set_option maxRecDepth 100000 in
theorem c_X4_digestBytes (l : Launch) (D : va_G) (cI cL cM : ClassId) (A : Nat → Prop) (d : Int64) (h0 h1 lim : Nat) (r : Row) (hc : q_c r ≤ lim) (hm : lim < 2147483648) : mL l yX4_digestBytes wsX4_digestBytes ({ frames := 2, cells := 0, slots := 0, locals := 42 }) D (tB cI cL cM) A [.long d, .ref h0] (rowW cI h0 h1 lim r) (q_dig d r) (rowW cI h0 h1 lim r) := by
  refine Met.ofW (cc := cX4_digestBytes) (maxL := 6) (ret := (some .long)) (by decide) rfl ?_
  intro p e s m args below meth c s₁ B hml hv
  obtain ⟨rfl, hP, hE, hD, hA⟩ := hv
  have hK := hE.1
  have hx := B.exec
  have hb := B.bytes
  have hr := B.returns
  have hts := atoms_spec (ws := wsX4_digestBytes) B.pre
  have hown : s.vm.findClass RX4 = some m.cls := findClass_of_methodNamed B.named
  have hlocks := B.notSynchronized
  have hS : va_S A s.heap s.heap [] := va_S.rf
  have hl := lv_entry ([.long d, .ref h0]) (n := 6) (Nat.le_of_ble_eq_true rfl)
  rw [lg_entry_eq]
  generalize (lg_sl ([.long d, .ref h0]) ++ List.replicate (6 - (lg_sl ([.long d, .ref h0])).length) Slot.unset).toArray = ls at hl ⊢
  have hl : lv_has ls 6 [(0, .long d), (2, .ref h0)] := hl
  refine lv_lload_n hx hb dX4_digestBytes_0 rfl (lv_at hl 0 rfl) ?_
  refine lv_ldc2 hx hb hown (hts _ (List.mem_of_getElem? (i := 1) rfl)) dX4_digestBytes_1 ?_
  refine lv_lmul hx hb dX4_digestBytes_4 ?_
  refine lv_aload_n hx hb dX4_digestBytes_5 rfl (lv_at hl 1 rfl) ?_
  refine va_get (D := D) (ci := 0) (v := .int (nI (q_c r))) (C := RX0) (T := TX0) (N := 2) hx hb hts (fun _ h => List.mem_cons_of_mem _ (List.mem_append_right _ h)) hown hK hP 0 rfl rfl 1 (by decide) (hts _ (List.mem_of_getElem? (i := 2) rfl)) (fun _ h9 => h9) rfl dX4_digestBytes_6 ?_
  refine lv_i2l hx hb dX4_digestBytes_9 rfl ?_
  refine lv_ladd hx hb dX4_digestBytes_10 ?_
  refine lv_topl (fun d0 hd0 => ?_)
  refine lv_lstore_n (lv' := [(3, .long d0), (0, .long d), (2, .ref h0)]) hx hb dX4_digestBytes_11 rfl hl (by decide) rfl (fun ls hl => ?_)
  refine lv_iconst (v := 0) hx hb dX4_digestBytes_12 (by decide) ?_
  refine lv_istore (lv' := [(5, .int 0), (3, .long d0), (0, .long d), (2, .ref h0)]) hx hb dX4_digestBytes_13 hl (by decide) rfl (fun ls hl => ?_)
  have lpq : ∀ (n9 : Nat) (k9 : Nat) (hk9 : k9 ≤ q_c r), q_c r - k9 < n9 → ∀ (H : Heap) (locs : List Loc), va_P D vwCl (rowW cI h0 h1 lim r) H → va_D A (rowW cI h0 h1 lim r) → va_S A s.heap H locs → ∀ (ls : Array Slot), lv_has ls 6 [(5, .int (nI k9)), (3, .long (dgq r d0 k9)), (2, .ref h0), (0, .long d)] → W p l e (headSpec wsX4_digestBytes ({ frames := 2, cells := 0, slots := 0, locals := 42 })).room s m (([.long d, .ref h0] : List Value).toArray) below meth c H locs 0 0 (MQ below (va_Ql (fun x9 (_ : Unit) => x9 = (q_dig d r)) (fun _ t => hq D A (rowW cI h0 h1 lim r) t) A) (([.long d, .ref h0] : List Value).toArray) s 0 0 A) (F0 m 15 ls []) := by
    intro n9
    induction n9 with
    | zero => intro k9 hk9 hm9; exact absurd hm9 (Nat.not_lt_zero _)
    | succ n9 ih_lpq =>
      intro k9 hk9 hm9 H locs hP hD hS ls hl
      refine lv_iload hx hb dX4_digestBytes_15 (lv_at hl 0 rfl) ?_
      refine lv_aload_n hx hb dX4_digestBytes_17 rfl (lv_at hl 2 rfl) ?_
      refine va_get (D := D) (ci := 0) (v := .int (nI (q_c r))) (C := RX0) (T := TX0) (N := 2) hx hb hts (fun _ h => List.mem_cons_of_mem _ (List.mem_append_right _ h)) hown hK hP 0 rfl rfl 1 (by decide) (hts _ (List.mem_of_getElem? (i := 2) rfl)) (fun _ h9 => h9) rfl dX4_digestBytes_18 ?_
      refine lv_icmp_ge (tgt := 44) hx hb dX4_digestBytes_21 (by decide) (fun cj => ?_) (fun cj => ?_)
      · replace cj : (nI (q_c r)) ≤ (nI k9) := cj
        have hjn : k9 = q_c r := Nat.le_antisymm hk9 (ge_N (Nat.lt_of_le_of_lt hc hm) (Nat.lt_of_le_of_lt (Nat.le_trans hk9 hc) hm) cj)
        refine lv_lload_n hx hb dX4_digestBytes_44 rfl (lv_at hl 1 rfl) ?_
        exact W.lret (v := (dgq r d0 k9)) hx hb hr (fun t ht hW => ⟨⟨(dgq r d0 k9), (), rfl, by (unfold q_dig; rw [← hd0, hjn]), by rw [ht]; exact hP, hD⟩, hS.F ht⟩) hS.2.2 dX4_digestBytes_45
      · replace cj : ¬ (nI (q_c r)) ≤ (nI k9) := cj
        have hjn : k9 < q_c r := nge_N (Nat.lt_of_le_of_lt hc hm) (Nat.lt_of_le_of_lt (Nat.le_trans hk9 hc) hm) cj
        refine lv_lload_n hx hb dX4_digestBytes_24 rfl (lv_at hl 1 rfl) ?_
        refine lv_ldc2 hx hb hown (hts _ (List.mem_of_getElem? (i := 1) rfl)) dX4_digestBytes_25 ?_
        refine lv_lmul hx hb dX4_digestBytes_28 ?_
        refine lv_aload_n hx hb dX4_digestBytes_29 rfl (lv_at hl 2 rfl) ?_
        refine lv_iload hx hb dX4_digestBytes_30 (lv_at hl 0 rfl) ?_
        refine kI (rV (As := [.int (nI k9)]) (rest := [.long ((dgq r d0 k9) * 31)]) ⟨hx, hb, hml, hown, hts⟩ (c_X0_at l D cI cL cM _ h0 h1 lim r (nI k9) hc hm) (cwV 1 hts gX4_digestBytes_X0_at rfl rfl rfl (by decide +kernel) ⟨(Nat.le_of_ble_eq_true rfl), (Nat.le_of_ble_eq_true rfl)⟩) hE hP hD [0, 1] rfl rfl rfl rfl rfl hl.1 rfl (Nat.le_of_ble_eq_true rfl) dX4_digestBytes_32 ⟨(Nat.le_of_ble_eq_true rfl), (Nat.le_of_ble_eq_true rfl)⟩) hP hD hS hA (is := [0, 1]) rfl rfl (fun H locs hP hD hS => ?_)
        rw [rowW_all] at hP hD
        have hP : va_P D vwCl (rowW cI h0 h1 lim r) H := hP
        have hD : va_D A (rowW cI h0 h1 lim r) := hD
        refine lv_i2l hx hb dX4_digestBytes_35 rfl ?_
        refine lv_ladd hx hb dX4_digestBytes_36 ?_
        refine lv_lstore_n (lv' := [(3, .long (((dgq r d0 k9) * 31) + ((q_at r (nI k9)).toInt64))), (5, .int (nI k9)), (2, .ref h0), (0, .long d)]) hx hb dX4_digestBytes_37 rfl hl (by decide) rfl (fun ls hl => ?_)
        refine lv_iinc (v := nI (k9 + 1)) (lv' := [(5, .int (nI (k9 + 1))), (3, .long (((dgq r d0 k9) * 31) + ((q_at r (nI k9)).toInt64))), (2, .ref h0), (0, .long d)]) hx hb dX4_digestBytes_38 hl (k := 1) rfl (nI_1 _) (by decide) rfl (fun ls hl => ?_)
        refine lv_goto (tgt := 15) hx hb dX4_digestBytes_41 (by decide) ?_
        exact ih_lpq (k9 + 1) (hjn) (loopm hm9 hjn) _ _ hP hD hS ls (lv_sub hl [0, 1, 2, 3] rfl)
  exact lpq _ 0 (Nat.zero_le _) (Nat.lt_succ_self _) _ _ hP hD hS ls (lv_sub hl [0, 1, 3, 2] rfl)

set_option maxHeartbeats 4000000 in
set_option maxRecDepth 100000 in
theorem c_X4_digestModels (l : Launch) (D : va_G) (cI cL cM : ClassId) (A : Nat → Prop) (a : Nat → Nat) (x : Mx) (d : Int64) (hn6 : k_n (x_pr x) ≤ 6) : mL l yX4_digestModels wsX4_digestModels ({ frames := 0, cells := 0, slots := 0, locals := 0 }) D (tB cI cL cM) A [.ref (a 0), .long d] (mxW cI cL cM a x) (x_dm d (x_pr x)) (mxW cI cL cM a x) := by
  refine Met.ofW (cc := cX4_digestModels) (maxL := 8) (ret := (some .long)) (by decide) rfl ?_
  intro p e s m args below meth c s₁ B hml hv
  obtain ⟨rfl, hP, hE, hD, hA⟩ := hv
  have hK := hE.1
  have hx := B.exec
  have hb := B.bytes
  have hr := B.returns
  have hts := atoms_spec (ws := wsX4_digestModels) B.pre
  have hown : s.vm.findClass RX4 = some m.cls := findClass_of_methodNamed B.named
  have hlocks := B.notSynchronized
  have hS : va_S A s.heap s.heap [] := va_S.rf
  have hl := lv_entry ([.ref (a 0), .long d]) (n := 8) (Nat.le_of_ble_eq_true rfl)
  rw [lg_entry_eq]
  generalize (lg_sl ([.ref (a 0), .long d]) ++ List.replicate (8 - (lg_sl ([.ref (a 0), .long d])).length) Slot.unset).toArray = ls at hl ⊢
  have hl : lv_has ls 8 [(0, .ref (a 0)), (1, .long d)] := hl
  refine lv_lload_n hx hb dX4_digestModels_0 rfl (lv_at hl 1 rfl) ?_
  refine lv_ldc2 hx hb hown (hts _ (List.mem_of_getElem? (i := 1) rfl)) dX4_digestModels_1 ?_
  refine lv_lmul hx hb dX4_digestModels_4 ?_
  refine lv_aload_n hx hb dX4_digestModels_5 rfl (lv_at hl 0 rfl) ?_
  refine va_get (D := D) (ci := 4) (v := .ref (a 7)) (C := RX4) (T := TX4) (N := 5) hx hb hts (fun _ h => List.mem_cons_of_mem _ (List.mem_append_left _ (List.mem_append_left _ (List.mem_append_right _ h)))) hown hK hP 0 rfl rfl 3 (by decide) (hts _ (List.mem_of_getElem? (i := 2) rfl)) (fun _ h9 => h9) rfl dX4_digestModels_6 ?_
  refine va_get (D := D) (ci := 3) (v := .int (nI (k_n (x_pr x)))) (C := RX3) (T := TX3) (N := 7) hx hb hts (fun _ h => List.mem_cons_of_mem _ (List.mem_append_left _ (List.mem_append_right _ h))) hown hK hP 7 rfl rfl 1 (by decide) (hts _ (List.mem_of_getElem? (i := 3) rfl)) (fun _ h9 => h9) rfl dX4_digestModels_9 ?_
  refine lv_i2l hx hb dX4_digestModels_12 rfl ?_
  refine lv_ladd hx hb dX4_digestModels_13 ?_
  refine lv_topl (fun d0 hd0 => ?_)
  refine lv_lstore_n (lv' := [(3, .long d0), (0, .ref (a 0)), (1, .long d)]) hx hb dX4_digestModels_14 rfl hl (by decide) rfl (fun ls hl => ?_)
  refine lv_iconst (v := 0) hx hb dX4_digestModels_15 (by decide) ?_
  refine lv_istore (lv' := [(5, .int 0), (3, .long d0), (0, .ref (a 0)), (1, .long d)]) hx hb dX4_digestModels_16 hl (by decide) rfl (fun ls hl => ?_)
  have lpm : ∀ (n9 : Nat) (k9 : Nat) (hk9 : k9 ≤ k_n (x_pr x)), k_n (x_pr x) - k9 < n9 → ∀ (H : Heap) (locs : List Loc), va_P D vwCl (mxW cI cL cM a x) H → va_D A (mxW cI cL cM a x) → va_S A s.heap H locs → ∀ (ls : Array Slot), lv_has ls 8 [(5, .int (nI k9)), (3, .long (dxm (x_pr x) d0 k9)), (0, .ref (a 0)), (1, .long d)] → W p l e (headSpec wsX4_digestModels ({ frames := 0, cells := 0, slots := 0, locals := 0 })).room s m (([.ref (a 0), .long d] : List Value).toArray) below meth c H locs 0 0 (MQ below (va_Ql (fun x9 (_ : Unit) => x9 = (x_dm d (x_pr x))) (fun _ t => hq D A (mxW cI cL cM a x) t) A) (([.ref (a 0), .long d] : List Value).toArray) s 0 0 A) (F0 m 18 ls []) := by
    intro n9
    induction n9 with
    | zero => intro k9 hk9 hm9; exact absurd hm9 (Nat.not_lt_zero _)
    | succ n9 ih_lpm =>
      intro k9 hk9 hm9 H locs hP hD hS ls hl
      refine lv_iload hx hb dX4_digestModels_18 (lv_at hl 0 rfl) ?_
      refine lv_aload_n hx hb dX4_digestModels_20 rfl (lv_at hl 2 rfl) ?_
      refine va_get (D := D) (ci := 4) (v := .ref (a 7)) (C := RX4) (T := TX4) (N := 5) hx hb hts (fun _ h => List.mem_cons_of_mem _ (List.mem_append_left _ (List.mem_append_left _ (List.mem_append_right _ h)))) hown hK hP 0 rfl rfl 3 (by decide) (hts _ (List.mem_of_getElem? (i := 2) rfl)) (fun _ h9 => h9) rfl dX4_digestModels_21 ?_
      refine va_get (D := D) (ci := 3) (v := .int (nI (k_n (x_pr x)))) (C := RX3) (T := TX3) (N := 7) hx hb hts (fun _ h => List.mem_cons_of_mem _ (List.mem_append_left _ (List.mem_append_right _ h))) hown hK hP 7 rfl rfl 1 (by decide) (hts _ (List.mem_of_getElem? (i := 3) rfl)) (fun _ h9 => h9) rfl dX4_digestModels_24 ?_
      refine lv_icmp_ge (tgt := 132) hx hb dX4_digestModels_27 (by decide) (fun cj => ?_) (fun cj => ?_)
      · replace cj : (nI (k_n (x_pr x))) ≤ (nI k9) := cj
        have hjn : k9 = k_n (x_pr x) := by have h8 := ge_N (by omega) (by omega) cj; omega
        refine lv_lload_n hx hb dX4_digestModels_132 rfl (lv_at hl 1 rfl) ?_
        exact W.lret (v := (dxm (x_pr x) d0 k9)) hx hb hr (fun t ht hW => ⟨⟨(dxm (x_pr x) d0 k9), (), rfl, by (unfold x_dm; rw [← hd0, hjn]), by rw [ht]; exact hP, hD⟩, hS.F ht⟩) hS.2.2 dX4_digestModels_133
      · replace cj : ¬ (nI (k_n (x_pr x))) ≤ (nI k9) := cj
        have hjn : k9 < k_n (x_pr x) := nge_N (by omega) (by omega) cj
        have hm6 : k9 < 6 := by omega
        refine lv_aload_n hx hb dX4_digestModels_30 rfl (lv_at hl 2 rfl) ?_
        refine va_get (D := D) (ci := 4) (v := .ref (a 7)) (C := RX4) (T := TX4) (N := 5) hx hb hts (fun _ h => List.mem_cons_of_mem _ (List.mem_append_left _ (List.mem_append_left _ (List.mem_append_right _ h)))) hown hK hP 0 rfl rfl 3 (by decide) (hts _ (List.mem_of_getElem? (i := 2) rfl)) (fun _ h9 => h9) rfl dX4_digestModels_31 ?_
        refine va_get (D := D) (ci := 3) (v := .ref (a 8)) (C := RX3) (T := TX3) (N := 7) hx hb hts (fun _ h => List.mem_cons_of_mem _ (List.mem_append_left _ (List.mem_append_right _ h))) hown hK hP 7 rfl rfl 0 (by decide) (hts _ (List.mem_of_getElem? (i := 4) rfl)) (fun _ h9 => h9) rfl dX4_digestModels_34 ?_
        refine lv_iload hx hb dX4_digestModels_37 (lv_at hl 0 rfl) ?_
        refine aldN hx hb hK hP 8 2 rfl rfl k9 (hm6) (Nat.le_of_ble_eq_true rfl) rfl dX4_digestModels_39 ?_
        refine lv_astore (lv' := [(6, .ref (a (11 + 4 * k9))), (5, .int (nI k9)), (3, .long (dxm (x_pr x) d0 k9)), (0, .ref (a 0)), (1, .long d)]) hx hb dX4_digestModels_40 hl (by decide) rfl (fun ls hl => ?_)
        refine lv_lload_n hx hb dX4_digestModels_42 rfl (lv_at hl 2 rfl) ?_
        refine lv_ldc2 hx hb hown (hts _ (List.mem_of_getElem? (i := 1) rfl)) dX4_digestModels_43 ?_
        refine lv_lmul hx hb dX4_digestModels_46 ?_
        refine lv_aload hx hb dX4_digestModels_47 (lv_at hl 0 rfl) ?_
        refine va_get (D := D) (ci := 2) (v := .int (o_od ((k_mo (x_pr x)) k9))) (C := RX2) (T := TX2) (N := 10) hx hb hts (fun _ h => List.mem_cons_of_mem _ (List.mem_append_right _ h)) hown hK hP (10 + 4 * k9) (mxW_o cI cL cM a _ hm6) rfl 0 (by decide) (hts _ (List.mem_of_getElem? (i := 5) rfl)) (fun _ h9 => h9) rfl dX4_digestModels_49 ?_
        refine lv_i2l hx hb dX4_digestModels_52 rfl ?_
        refine lv_ladd hx hb dX4_digestModels_53 ?_
        refine lv_lstore_n (lv' := [(3, .long (((dxm (x_pr x) d0 k9) * 31) + ((o_od ((k_mo (x_pr x)) k9)).toInt64))), (6, .ref (a (11 + 4 * k9))), (5, .int (nI k9)), (0, .ref (a 0)), (1, .long d)]) hx hb dX4_digestModels_54 rfl hl (by decide) rfl (fun ls hl => ?_)
        refine lv_lload_n hx hb dX4_digestModels_55 rfl (lv_at hl 0 rfl) ?_
        refine lv_ldc2 hx hb hown (hts _ (List.mem_of_getElem? (i := 1) rfl)) dX4_digestModels_56 ?_
        refine lv_lmul hx hb dX4_digestModels_59 ?_
        refine lv_aload hx hb dX4_digestModels_60 (lv_at hl 1 rfl) ?_
        refine va_get (D := D) (ci := 2) (v := .int (o_rt ((k_mo (x_pr x)) k9))) (C := RX2) (T := TX2) (N := 10) hx hb hts (fun _ h => List.mem_cons_of_mem _ (List.mem_append_right _ h)) hown hK hP (10 + 4 * k9) (mxW_o cI cL cM a _ hm6) rfl 1 (by decide) (hts _ (List.mem_of_getElem? (i := 6) rfl)) (fun _ h9 => h9) rfl dX4_digestModels_62 ?_
        refine lv_i2l hx hb dX4_digestModels_65 rfl ?_
        refine lv_ladd hx hb dX4_digestModels_66 ?_
        refine lv_lstore_n (lv' := [(3, .long (((((dxm (x_pr x) d0 k9) * 31) + ((o_od ((k_mo (x_pr x)) k9)).toInt64)) * 31) + ((o_rt ((k_mo (x_pr x)) k9)).toInt64))), (6, .ref (a (11 + 4 * k9))), (5, .int (nI k9)), (0, .ref (a 0)), (1, .long d)]) hx hb dX4_digestModels_67 rfl hl (by decide) rfl (fun ls hl => ?_)
        refine lv_lload_n hx hb dX4_digestModels_68 rfl (lv_at hl 0 rfl) ?_
        refine lv_ldc2 hx hb hown (hts _ (List.mem_of_getElem? (i := 1) rfl)) dX4_digestModels_69 ?_
        refine lv_lmul hx hb dX4_digestModels_72 ?_
        refine lv_aload hx hb dX4_digestModels_73 (lv_at hl 1 rfl) ?_
        refine va_get (D := D) (ci := 2) (v := .int (o_t ((k_mo (x_pr x)) k9))) (C := RX2) (T := TX2) (N := 10) hx hb hts (fun _ h => List.mem_cons_of_mem _ (List.mem_append_right _ h)) hown hK hP (10 + 4 * k9) (mxW_o cI cL cM a _ hm6) rfl 2 (by decide) (hts _ (List.mem_of_getElem? (i := 7) rfl)) (fun _ h9 => h9) rfl dX4_digestModels_75 ?_
        refine lv_i2l hx hb dX4_digestModels_78 rfl ?_
        refine lv_ladd hx hb dX4_digestModels_79 ?_
        refine lv_topl (fun d3 hd3 => ?_)
        refine lv_lstore_n (lv' := [(3, .long d3), (6, .ref (a (11 + 4 * k9))), (5, .int (nI k9)), (0, .ref (a 0)), (1, .long d)]) hx hb dX4_digestModels_80 rfl hl (by decide) rfl (fun ls hl => ?_)
        refine lv_iconst (v := 0) hx hb dX4_digestModels_81 (by decide) ?_
        refine lv_istore (lv' := [(7, .int 0), (3, .long d3), (6, .ref (a (11 + 4 * k9))), (5, .int (nI k9)), (0, .ref (a 0)), (1, .long d)]) hx hb dX4_digestModels_82 hl (by decide) rfl (fun ls hl => ?_)
        have lpi : ∀ (n9 : Nat) (p9 : Nat) (hp9 : p9 ≤ 8), 8 - p9 < n9 → ∀ (H : Heap) (locs : List Loc), va_P D vwCl (mxW cI cL cM a x) H → va_D A (mxW cI cL cM a x) → va_S A s.heap H locs → ∀ (ls : Array Slot), lv_has ls 8 [(7, .int (nI p9)), (3, .long (dxw (k_mo (x_pr x) k9) p9 d3)), (6, .ref (a (11 + 4 * k9))), (5, .int (nI k9)), (0, .ref (a 0)), (1, .long d)] → W p l e (headSpec wsX4_digestModels ({ frames := 0, cells := 0, slots := 0, locals := 0 })).room s m (([.ref (a 0), .long d] : List Value).toArray) below meth c H locs 0 0 (MQ below (va_Ql (fun x9 (_ : Unit) => x9 = (x_dm d (x_pr x))) (fun _ t => hq D A (mxW cI cL cM a x) t) A) (([.ref (a 0), .long d] : List Value).toArray) s 0 0 A) (F0 m 84 ls []) := by
          intro n9
          induction n9 with
          | zero => intro p9 hp9 hm9; exact absurd hm9 (Nat.not_lt_zero _)
          | succ n9 ih_lpi =>
            intro p9 hp9 hm9 H locs hP hD hS ls hl
            refine lv_iload hx hb dX4_digestModels_84 (lv_at hl 0 rfl) ?_
            refine lv_bipush (v := 8) hx hb dX4_digestModels_86 (by decide) ?_
            refine lv_icmp_ge (tgt := 113) hx hb dX4_digestModels_88 (by decide) (fun cp => ?_) (fun cp => ?_)
            · replace cp : (8 : Int32) ≤ (nI p9) := cp
              have hpp : p9 = 8 := by have h8 := ge_N (a := 8) (by omega) (by omega) cp; omega
              rw [hpp] at hl
              refine lv_lload_n hx hb dX4_digestModels_113 rfl (lv_at hl 1 rfl) ?_
              refine lv_ldc2 hx hb hown (hts _ (List.mem_of_getElem? (i := 1) rfl)) dX4_digestModels_114 ?_
              refine lv_lmul hx hb dX4_digestModels_117 ?_
              refine lv_aload hx hb dX4_digestModels_118 (lv_at hl 2 rfl) ?_
              refine va_get (D := D) (ci := 2) (v := .int (o_cn ((k_mo (x_pr x)) k9))) (C := RX2) (T := TX2) (N := 10) hx hb hts (fun _ h => List.mem_cons_of_mem _ (List.mem_append_right _ h)) hown hK hP (10 + 4 * k9) (mxW_o cI cL cM a _ hm6) rfl 6 (by decide) (hts _ (List.mem_of_getElem? (i := 9) rfl)) (fun _ h9 => h9) rfl dX4_digestModels_120 ?_
              refine lv_i2l hx hb dX4_digestModels_123 rfl ?_
              refine lv_ladd hx hb dX4_digestModels_124 ?_
              refine lv_lstore_n (lv' := [(3, .long (((dxw (k_mo (x_pr x) k9) 8 d3) * 31) + ((o_cn ((k_mo (x_pr x)) k9)).toInt64))), (7, .int (nI 8)), (6, .ref (a (11 + 4 * k9))), (5, .int (nI k9)), (0, .ref (a 0)), (1, .long d)]) hx hb dX4_digestModels_125 rfl hl (by decide) rfl (fun ls hl => ?_)
              refine lv_iinc (v := nI (k9 + 1)) (lv' := [(5, .int (nI (k9 + 1))), (3, .long (((dxw (k_mo (x_pr x) k9) 8 d3) * 31) + ((o_cn ((k_mo (x_pr x)) k9)).toInt64))), (7, .int (nI 8)), (6, .ref (a (11 + 4 * k9))), (0, .ref (a 0)), (1, .long d)]) hx hb dX4_digestModels_126 hl (k := 3) rfl (nI_1 _) (by decide) rfl (fun ls hl => ?_)
              refine lv_goto (tgt := 18) hx hb dX4_digestModels_129 (by decide) ?_
              subst hd3
              exact ih_lpm (k9 + 1) (by omega) (by omega) _ _ hP hD hS ls (lv_sub hl [0, 1, 4, 5] rfl)
            · replace cp : ¬ (8 : Int32) ≤ (nI p9) := cp
              have hpp : p9 < 8 := nge_N (a := 8) (by omega) (by omega) cp
              refine lv_lload_n hx hb dX4_digestModels_91 rfl (lv_at hl 1 rfl) ?_
              refine lv_ldc2 hx hb hown (hts _ (List.mem_of_getElem? (i := 1) rfl)) dX4_digestModels_92 ?_
              refine lv_lmul hx hb dX4_digestModels_95 ?_
              refine lv_aload hx hb dX4_digestModels_96 (lv_at hl 2 rfl) ?_
              refine va_get (D := D) (ci := 2) (v := .ref (a (14 + 4 * k9))) (C := RX2) (T := TX2) (N := 10) hx hb hts (fun _ h => List.mem_cons_of_mem _ (List.mem_append_right _ h)) hown hK hP (10 + 4 * k9) (mxW_o cI cL cM a _ hm6) rfl 5 (by decide) (hts _ (List.mem_of_getElem? (i := 8) rfl)) (fun _ h9 => h9) rfl dX4_digestModels_98 ?_
              refine lv_iload hx hb dX4_digestModels_101 (lv_at hl 0 rfl) ?_
              refine ildN hx hb hK hP (13 + 4 * k9) 0 (mxW_w cI cL cM a _ hm6) rfl p9 (hpp) ((Nat.le_of_ble_eq_true rfl)) dX4_digestModels_103 ?_
              refine lv_i2l hx hb dX4_digestModels_104 rfl ?_
              refine lv_ladd hx hb dX4_digestModels_105 ?_
              refine lv_lstore_n (lv' := [(3, .long (((dxw (k_mo (x_pr x) k9) p9 d3) * 31) + (((o_we ((k_mo (x_pr x)) k9)) p9).toInt64))), (7, .int (nI p9)), (6, .ref (a (11 + 4 * k9))), (5, .int (nI k9)), (0, .ref (a 0)), (1, .long d)]) hx hb dX4_digestModels_106 rfl hl (by decide) rfl (fun ls hl => ?_)
              refine lv_iinc (v := nI (p9 + 1)) (lv' := [(7, .int (nI (p9 + 1))), (3, .long (((dxw (k_mo (x_pr x) k9) p9 d3) * 31) + (((o_we ((k_mo (x_pr x)) k9)) p9).toInt64))), (6, .ref (a (11 + 4 * k9))), (5, .int (nI k9)), (0, .ref (a 0)), (1, .long d)]) hx hb dX4_digestModels_107 hl (k := 1) rfl (nI_1 _) (by decide) rfl (fun ls hl => ?_)
              refine lv_goto (tgt := 84) hx hb dX4_digestModels_110 (by decide) ?_
              exact ih_lpi (p9 + 1) (by omega) (by omega) _ _ hP hD hS ls (lv_sub hl [0, 1, 2, 3, 4, 5] rfl)
        exact lpi _ 0 (Nat.zero_le _) (Nat.lt_succ_self _) _ _ hP hD hS ls (lv_sub hl [0, 1, 2, 3, 4, 5] rfl)
  exact lpm _ 0 (Nat.zero_le _) (Nat.lt_succ_self _) _ _ hP hD hS ls (lv_sub hl [0, 1, 2, 3] rfl)

set_option maxHeartbeats 4000000 in
set_option maxRecDepth 100000 in
theorem c_X4_digest (l : Launch) (D : va_G) (cI cL cM : ClassId) (A : Nat → Prop) (a : Nat → Nat) (x : Mx) (hn6 : k_n (x_pr x) ≤ 6) (htc : q_c (x_tx x) ≤ 80) (hec : q_c (x_en x) ≤ 2564) (hdc : q_c (x_de x) ≤ 80) : mL l yX4_digest wsX4_digest ({ frames := 3, cells := 0, slots := 0, locals := 67 }) D (tB cI cL cM) A [.ref (a 0)] (mxW cI cL cM a x) (x_dig x) (mxW cI cL cM a x) := by
  refine Met.ofW (cc := cX4_digest) (maxL := 3) (ret := (some .long)) (by decide) rfl ?_
  intro p e s m args below meth c s₁ B hml hv
  obtain ⟨rfl, hP, hE, hD, hA⟩ := hv
  have hK := hE.1
  have hx := B.exec
  have hb := B.bytes
  have hr := B.returns
  have hts := atoms_spec (ws := wsX4_digest) B.pre
  have hown : s.vm.findClass RX4 = some m.cls := findClass_of_methodNamed B.named
  have hlocks := B.notSynchronized
  have hS : va_S A s.heap s.heap [] := va_S.rf
  have hl := lv_entry ([.ref (a 0)]) (n := 3) (Nat.le_of_ble_eq_true rfl)
  rw [lg_entry_eq]
  generalize (lg_sl ([.ref (a 0)]) ++ List.replicate (3 - (lg_sl ([.ref (a 0)])).length) Slot.unset).toArray = ls at hl ⊢
  have hl : lv_has ls 3 [(0, .ref (a 0))] := hl
  refine lv_aload_n hx hb dX4_digest_0 rfl (lv_at hl 0 rfl) ?_
  refine lv_ldc2 hx hb hown (hts _ (List.mem_of_getElem? (i := 1) rfl)) dX4_digest_1 ?_
  refine kLa (rVa (As := [.long 103]) (rest := []) ⟨hx, hb, hml, hown, hts⟩ (c_X4_digestModels l D cI cL cM _ a x 103 hn6) (cwV 1 hts gX4_digest_X4_digestModels rfl rfl rfl (by decide +kernel) ⟨(Nat.le_of_ble_eq_true rfl), (Nat.le_of_ble_eq_true rfl)⟩) hE hP hD hS hA 0 rfl rfl rfl hl.1 rfl (Nat.le_of_ble_eq_true rfl) dX4_digest_4 ⟨(Nat.le_of_ble_eq_true rfl), (Nat.le_of_ble_eq_true rfl)⟩) hS (fun H locs hP hD hS => ?_)
  have hP : va_P D vwCl (mxW cI cL cM a x) H := hP
  have hD : va_D A (mxW cI cL cM a x) := hD
  refine lv_lstore_n (lv' := [(1, .long (x_dm 103 (x_pr x))), (0, .ref (a 0))]) hx hb dX4_digest_7 rfl hl (by decide) rfl (fun ls hl => ?_)
  refine lv_lload_n hx hb dX4_digest_8 rfl (lv_at hl 0 rfl) ?_
  refine lv_aload_n hx hb dX4_digest_9 rfl (lv_at hl 1 rfl) ?_
  refine va_get (D := D) (ci := 4) (v := .ref (a 1)) (C := RX4) (T := TX4) (N := 5) hx hb hts (fun _ h => List.mem_cons_of_mem _ (List.mem_append_left _ (List.mem_append_left _ (List.mem_append_left _ (List.mem_append_right _ h))))) hown hK hP 0 rfl rfl 0 (by decide) (hts _ (List.mem_of_getElem? (i := 2) rfl)) (fun _ h9 => h9) rfl dX4_digest_10 ?_
  refine kL (rS (As := [.long (x_dm 103 (x_pr x)), .ref (a 1)]) (rest := []) ⟨hx, hb, hml, hown, hts⟩ (c_X4_digestBytes l D cI cL cM _ (x_dm 103 (x_pr x)) (a 1) (a 2) 80 (x_tx x) htc (Nat.le_of_ble_eq_true rfl)) (va_cwS 2 hts gX4_digest_X4_digestBytes rfl rfl rfl (by decide +kernel) ⟨(Nat.le_of_ble_eq_true rfl), (Nat.le_of_ble_eq_true rfl)⟩) hE hP hD [1, 2] rfl rfl rfl hl.1 rfl (Nat.le_of_ble_eq_true rfl) dX4_digest_13 ⟨(Nat.le_of_ble_eq_true rfl), (Nat.le_of_ble_eq_true rfl)⟩) hP hD hS hA (is := [1, 2]) rfl rfl (fun H locs hP hD hS => ?_)
  rw [mxW_tx, xs_tx_self] at hP hD
  have hP : va_P D vwCl (mxW cI cL cM a x) H := hP
  have hD : va_D A (mxW cI cL cM a x) := hD
  refine lv_lstore_n (lv' := [(1, .long (q_dig (x_dm 103 (x_pr x)) (x_tx x))), (0, .ref (a 0))]) hx hb dX4_digest_16 rfl hl (by decide) rfl (fun ls hl => ?_)
  refine lv_lload_n hx hb dX4_digest_17 rfl (lv_at hl 0 rfl) ?_
  refine lv_ldc2 hx hb hown (hts _ (List.mem_of_getElem? (i := 3) rfl)) dX4_digest_18 ?_
  refine lv_lmul hx hb dX4_digest_21 ?_
  refine lv_aload_n hx hb dX4_digest_22 rfl (lv_at hl 1 rfl) ?_
  refine va_get (D := D) (ci := 4) (v := .ref (a 7)) (C := RX4) (T := TX4) (N := 5) hx hb hts (fun _ h => List.mem_cons_of_mem _ (List.mem_append_left _ (List.mem_append_left _ (List.mem_append_left _ (List.mem_append_right _ h))))) hown hK hP 0 rfl rfl 3 (by decide) (hts _ (List.mem_of_getElem? (i := 4) rfl)) (fun _ h9 => h9) rfl dX4_digest_23 ?_
  refine va_get (D := D) (ci := 3) (v := .int (nI (k_nd (x_pr x)))) (C := RX3) (T := TX3) (N := 7) hx hb hts (fun _ h => List.mem_cons_of_mem _ (List.mem_append_left _ (List.mem_append_left _ (List.mem_append_right _ h)))) hown hK hP 7 rfl rfl 3 (by decide) (hts _ (List.mem_of_getElem? (i := 5) rfl)) (fun _ h9 => h9) rfl dX4_digest_26 ?_
  refine lv_i2l hx hb dX4_digest_29 rfl ?_
  refine lv_ladd hx hb dX4_digest_30 ?_
  refine lv_lstore_n (lv' := [(1, .long (((q_dig (x_dm 103 (x_pr x)) (x_tx x)) * 31) + ((nI (k_nd (x_pr x))).toInt64))), (0, .ref (a 0))]) hx hb dX4_digest_31 rfl hl (by decide) rfl (fun ls hl => ?_)
  refine lv_lload_n hx hb dX4_digest_32 rfl (lv_at hl 0 rfl) ?_
  refine lv_ldc2 hx hb hown (hts _ (List.mem_of_getElem? (i := 3) rfl)) dX4_digest_33 ?_
  refine lv_lmul hx hb dX4_digest_36 ?_
  refine lv_aload_n hx hb dX4_digest_37 rfl (lv_at hl 1 rfl) ?_
  refine va_get (D := D) (ci := 4) (v := .ref (a 7)) (C := RX4) (T := TX4) (N := 5) hx hb hts (fun _ h => List.mem_cons_of_mem _ (List.mem_append_left _ (List.mem_append_left _ (List.mem_append_left _ (List.mem_append_right _ h))))) hown hK hP 0 rfl rfl 3 (by decide) (hts _ (List.mem_of_getElem? (i := 4) rfl)) (fun _ h9 => h9) rfl dX4_digest_38 ?_
  refine va_get (D := D) (ci := 3) (v := .int (k_bt (x_pr x))) (C := RX3) (T := TX3) (N := 7) hx hb hts (fun _ h => List.mem_cons_of_mem _ (List.mem_append_left _ (List.mem_append_left _ (List.mem_append_right _ h)))) hown hK hP 7 rfl rfl 5 (by decide) (hts _ (List.mem_of_getElem? (i := 6) rfl)) (fun _ h9 => h9) rfl dX4_digest_41 ?_
  refine lv_i2l hx hb dX4_digest_44 rfl ?_
  refine lv_ladd hx hb dX4_digest_45 ?_
  refine lv_lstore_n (lv' := [(1, .long (((((q_dig (x_dm 103 (x_pr x)) (x_tx x)) * 31) + ((nI (k_nd (x_pr x))).toInt64)) * 31) + ((k_bt (x_pr x)).toInt64))), (0, .ref (a 0))]) hx hb dX4_digest_46 rfl hl (by decide) rfl (fun ls hl => ?_)
  refine lv_lload_n hx hb dX4_digest_47 rfl (lv_at hl 0 rfl) ?_
  refine lv_ldc2 hx hb hown (hts _ (List.mem_of_getElem? (i := 3) rfl)) dX4_digest_48 ?_
  refine lv_lmul hx hb dX4_digest_51 ?_
  refine lv_aload_n hx hb dX4_digest_52 rfl (lv_at hl 1 rfl) ?_
  refine va_get (D := D) (ci := 4) (v := .ref (a 7)) (C := RX4) (T := TX4) (N := 5) hx hb hts (fun _ h => List.mem_cons_of_mem _ (List.mem_append_left _ (List.mem_append_left _ (List.mem_append_left _ (List.mem_append_right _ h))))) hown hK hP 0 rfl rfl 3 (by decide) (hts _ (List.mem_of_getElem? (i := 4) rfl)) (fun _ h9 => h9) rfl dX4_digest_53 ?_
  refine va_get (D := D) (ci := 3) (v := .long (k_er (x_pr x))) (C := RX3) (T := TX3) (N := 7) hx hb hts (fun _ h => List.mem_cons_of_mem _ (List.mem_append_left _ (List.mem_append_left _ (List.mem_append_right _ h)))) hown hK hP 7 rfl rfl 6 (by decide) (hts _ (List.mem_of_getElem? (i := 7) rfl)) (fun _ h9 => h9) rfl dX4_digest_56 ?_
  refine lv_ladd hx hb dX4_digest_59 ?_
  refine lv_lstore_n (lv' := [(1, .long (((((((q_dig (x_dm 103 (x_pr x)) (x_tx x)) * 31) + ((nI (k_nd (x_pr x))).toInt64)) * 31) + ((k_bt (x_pr x)).toInt64)) * 31) + (k_er (x_pr x)))), (0, .ref (a 0))]) hx hb dX4_digest_60 rfl hl (by decide) rfl (fun ls hl => ?_)
  refine lv_lload_n hx hb dX4_digest_61 rfl (lv_at hl 0 rfl) ?_
  refine lv_aload_n hx hb dX4_digest_62 rfl (lv_at hl 1 rfl) ?_
  refine va_get (D := D) (ci := 4) (v := .ref (a 3)) (C := RX4) (T := TX4) (N := 5) hx hb hts (fun _ h => List.mem_cons_of_mem _ (List.mem_append_left _ (List.mem_append_left _ (List.mem_append_left _ (List.mem_append_right _ h))))) hown hK hP 0 rfl rfl 1 (by decide) (hts _ (List.mem_of_getElem? (i := 8) rfl)) (fun _ h9 => h9) rfl dX4_digest_63 ?_
  refine kL (rS (As := [.long (((((((q_dig (x_dm 103 (x_pr x)) (x_tx x)) * 31) + ((nI (k_nd (x_pr x))).toInt64)) * 31) + ((k_bt (x_pr x)).toInt64)) * 31) + (k_er (x_pr x))), .ref (a 3)]) (rest := []) ⟨hx, hb, hml, hown, hts⟩ (c_X4_digestBytes l D cI cL cM _ (((((((q_dig (x_dm 103 (x_pr x)) (x_tx x)) * 31) + ((nI (k_nd (x_pr x))).toInt64)) * 31) + ((k_bt (x_pr x)).toInt64)) * 31) + (k_er (x_pr x))) (a 3) (a 4) 2564 (x_en x) hec (Nat.le_of_ble_eq_true rfl)) (va_cwS 2 hts gX4_digest_X4_digestBytes rfl rfl rfl (by decide +kernel) ⟨(Nat.le_of_ble_eq_true rfl), (Nat.le_of_ble_eq_true rfl)⟩) hE hP hD [3, 4] rfl rfl rfl hl.1 rfl (Nat.le_of_ble_eq_true rfl) dX4_digest_66 ⟨(Nat.le_of_ble_eq_true rfl), (Nat.le_of_ble_eq_true rfl)⟩) hP hD hS hA (is := [3, 4]) rfl rfl (fun H locs hP hD hS => ?_)
  rw [mxW_en, xs_en_self] at hP hD
  have hP : va_P D vwCl (mxW cI cL cM a x) H := hP
  have hD : va_D A (mxW cI cL cM a x) := hD
  refine lv_lstore_n (lv' := [(1, .long (q_dig (((((((q_dig (x_dm 103 (x_pr x)) (x_tx x)) * 31) + ((nI (k_nd (x_pr x))).toInt64)) * 31) + ((k_bt (x_pr x)).toInt64)) * 31) + (k_er (x_pr x))) (x_en x))), (0, .ref (a 0))]) hx hb dX4_digest_69 rfl hl (by decide) rfl (fun ls hl => ?_)
  refine lv_lload_n hx hb dX4_digest_70 rfl (lv_at hl 0 rfl) ?_
  refine lv_aload_n hx hb dX4_digest_71 rfl (lv_at hl 1 rfl) ?_
  refine va_get (D := D) (ci := 4) (v := .ref (a 5)) (C := RX4) (T := TX4) (N := 5) hx hb hts (fun _ h => List.mem_cons_of_mem _ (List.mem_append_left _ (List.mem_append_left _ (List.mem_append_left _ (List.mem_append_right _ h))))) hown hK hP 0 rfl rfl 2 (by decide) (hts _ (List.mem_of_getElem? (i := 9) rfl)) (fun _ h9 => h9) rfl dX4_digest_72 ?_
  refine kL (rS (As := [.long (q_dig (((((((q_dig (x_dm 103 (x_pr x)) (x_tx x)) * 31) + ((nI (k_nd (x_pr x))).toInt64)) * 31) + ((k_bt (x_pr x)).toInt64)) * 31) + (k_er (x_pr x))) (x_en x)), .ref (a 5)]) (rest := []) ⟨hx, hb, hml, hown, hts⟩ (c_X4_digestBytes l D cI cL cM _ (q_dig (((((((q_dig (x_dm 103 (x_pr x)) (x_tx x)) * 31) + ((nI (k_nd (x_pr x))).toInt64)) * 31) + ((k_bt (x_pr x)).toInt64)) * 31) + (k_er (x_pr x))) (x_en x)) (a 5) (a 6) 80 (x_de x) hdc (Nat.le_of_ble_eq_true rfl)) (va_cwS 2 hts gX4_digest_X4_digestBytes rfl rfl rfl (by decide +kernel) ⟨(Nat.le_of_ble_eq_true rfl), (Nat.le_of_ble_eq_true rfl)⟩) hE hP hD [5, 6] rfl rfl rfl hl.1 rfl (Nat.le_of_ble_eq_true rfl) dX4_digest_75 ⟨(Nat.le_of_ble_eq_true rfl), (Nat.le_of_ble_eq_true rfl)⟩) hP hD hS hA (is := [5, 6]) rfl rfl (fun H locs hP hD hS => ?_)
  rw [mxW_de, xs_de_self] at hP hD
  have hP : va_P D vwCl (mxW cI cL cM a x) H := hP
  have hD : va_D A (mxW cI cL cM a x) := hD
  exact W.lret (v := (q_dig (q_dig (((((((q_dig (x_dm 103 (x_pr x)) (x_tx x)) * 31) + ((nI (k_nd (x_pr x))).toInt64)) * 31) + ((k_bt (x_pr x)).toInt64)) * 31) + (k_er (x_pr x))) (x_en x)) (x_de x))) hx hb hr (fun t ht hW => ⟨⟨(q_dig (q_dig (((((((q_dig (x_dm 103 (x_pr x)) (x_tx x)) * 31) + ((nI (k_nd (x_pr x))).toInt64)) * 31) + ((k_bt (x_pr x)).toInt64)) * 31) + (k_er (x_pr x))) (x_en x)) (x_de x)), (), rfl, by rfl, by rw [ht]; exact hP, hD⟩, hS.F ht⟩) hS.2.2 dX4_digest_78
