/-! ===== throwing contracts with a room of their own; a reference answered; what isI says ===== -/
theorem thF {A : Nat → Prop} {s t : State} {H : Heap} {locs : List Loc} (hS : va_S A s.heap H locs) (hz : H.size ≤ t.heap.size) (hk : ∀ q : Nat, q < H.size → t.heap[q]? = H[q]?) : va_F A s t :=
  ⟨Nat.le_trans hS.1 hz, fun q h1 h2 => (hk q (Nat.lt_of_lt_of_le h1 hS.1)).trans (hS.2.1 q h1 h2)⟩
def mVy (l : Launch) (y : MethodName) (wy : List Cond) (rm : Room) (D : va_G) (T : List (ClassId × FieldType)) (A : Nat → Prop) (sa : Nat → Nat) (av : List Value) (ws ws' : va_W) (OK : Prop) (TH : String → Prop) (mc ms : Nat) : Prop :=
  vx_Met l y wy rm (va_Pc av (hoX D T A sa ws)) (va_Qv (fun (_ : Unit) => OK) (fun _ t => hq D A ws' t) A) (vx_X (fun (_ : Unit) => True) (fun E _ t => TH E ∧ hq D A ws t) A) mc ms A
def mIy (l : Launch) (y : MethodName) (wy : List Cond) (rm : Room) (D : va_G) (T : List (ClassId × FieldType)) (A : Nat → Prop) (sa : Nat → Nat) (av : List Value) (ws : va_W) (r : Int32) (ws' : va_W) (OK : Prop) (TH : String → Prop) (mc ms : Nat) : Prop :=
  vx_Met l y wy rm (va_Pc av (hoX D T A sa ws)) (va_Qi (fun x (_ : Unit) => x = r ∧ OK) (fun _ t => hq D A ws' t) A) (vx_X (fun (_ : Unit) => True) (fun E _ t => TH E ∧ hq D A ws t) A) mc ms A
def mRx (l : Launch) (y : MethodName) (wy : List Cond) (rm : Room) (D : va_G) (T : List (ClassId × FieldType)) (A : Nat → Prop) (sa : Nat → Nat) (av : List Value) (ws : va_W) (r : Nat) (ws' : va_W) (OK : Prop) (TH : String → Prop) (mc ms : Nat) : Prop :=
  vx_Met l y wy rm (va_Pc av (hoX D T A sa ws)) (va_Qr (fun (_ : Unit) => OK) (fun _ a9 t => a9 = r ∧ hq D A ws' t) A) (vx_X (fun (_ : Unit) => True) (fun E _ t => TH E ∧ hq D A ws t) A) mc ms A
section THR5
variable {p : Program} {l : Launch} {e : Env} {R : Room} {s : State} {m : MethodId} {args : Array Value} {below : List Frame} {meth : Method} {c : Code} {H : Heap} {locs : List Loc} {cells slots : Nat} {Q : State → Prop}
variable {pc : Nat} {rest st0 : List Value} {ls : Array Slot} {D : va_G} {A : Nat → Prop} {ws w1 : va_W} {H0 : Heap} {OK : Prop} {TH : String → Prop}
theorem kRxa {r : Nat} {a : Array Value} (hr : vx_Run p l e R s m args below meth c H locs cells slots 1 6 (F0 m pc ls st0) rest (va_Qr (fun (_ : Unit) => OK) (fun _ a9 t => a9 = r ∧ hq D A w1 t) A a) (vx_X (fun (_ : Unit) => True) (fun E _ t => TH E ∧ hq D A ws t) A) A) (hS : va_S A H0 H locs)
    (kx : ∀ (E : String) (ce : Cell) (q9 : Addr) (H : Heap) (locs : List Loc), TH E → va_P D vwCl ws H → va_D A ws → va_S A H0 H locs → H[q9]? = some ce → ce.vm = .none → s.vm.findClass E = some ce.cls → vx_W p l e R s m args below meth c H locs (cells + 1) (slots + 6) Q (F0 m pc ls rest) q9)
    (kk : ∀ (H : Heap) (locs : List Loc), OK → va_P D vwCl w1 H → va_D A w1 → va_S A H0 H locs → W p l e R s m args below meth c H locs (cells + 1) (slots + 6) Q (F0 m (pc + 3) ls (.ref r :: rest))) : W p l e R s m args below meth c H locs cells slots Q (F0 m pc ls st0) :=
  vx_callr hr hS (fun _ _ h => h) (fun _ h => h) (fun _ _ h => h)
    (fun E ce q9 _ t H1 locs1 ht _ _ hB _ _ hS1 h1 h2 h3 => kx E ce q9 H1 locs1 hB.1 (by rw [← ht]; exact hB.2.1) hB.2.2 hS1 h1 h2 h3)
    (fun _ r1 t H1 locs1 ht _ hp hB _ _ hS1 => by
      obtain ⟨rfl, hB1, hB2⟩ := hB
      exact kk H1 locs1 hp (by rw [← ht]; exact hB1) hB2 hS1)
end THR5
theorem i_nlt {v w : Int32} (h : v ≤ w) : ¬ w < v := fun h9 => by simp only [Int32.lt_iff_toInt_lt, Int32.le_iff_toInt_le] at h h9; omega
theorem i_lt {v w : Int32} (h : ¬ v ≤ w) : w < v := by simp only [Int32.lt_iff_toInt_lt, Int32.le_iff_toInt_le] at h ⊢; omega
theorem i_le {v w : Int32} (h : ¬ w < v) : v ≤ w := by simp only [Int32.lt_iff_toInt_lt, Int32.le_iff_toInt_le] at h ⊢; omega
theorem isI_1 {v lo hi : Int32} (h1 : ¬ v < lo) (h2 : ¬ hi < v) : ¬ isI v lo hi = 0 := by unfold isI; rw [if_neg h1, if_neg h2]; decide
theorem isI_a {v lo hi : Int32} (h1 : v < lo) : isI v lo hi = 0 := if_pos h1
theorem isI_b {v lo hi : Int32} (h2 : hi < v) : isI v lo hi = 0 := by unfold isI; rw [if_pos h2]; split <;> rfl
theorem m1T {n : Nat} (h : n < 2147483648) : (nI n - 1).toInt = (n : Int) - 1 := by
  rw [Int32.toInt_sub, nI_toInt h, tI1, Int.bmod_eq_of_le (by omega) (by omega)]
theorem isI_m {q : Int32} {n : Nat} (hn : n < 2147483648) (h1 : ¬ q < 0) (h2 : q < nI n) : ¬ isI q 0 (nI n - 1) = 0 :=
  isI_1 h1 (fun h9 => by rw [Int32.lt_iff_toInt_lt, m1T hn] at h9; rw [Int32.lt_iff_toInt_lt, nI_toInt hn] at h2; omega)
theorem isI_x {q : Int32} {n : Nat} (hn : n < 2147483648) (h2 : ¬ q < nI n) : isI q 0 (nI n - 1) = 0 :=
  isI_b (by rw [Int32.lt_iff_toInt_lt, m1T hn]; rw [Int32.lt_iff_toInt_lt, nI_toInt hn] at h2; omega)
theorem isI_N {q : Int32} {n : Nat} (hn : n < 1073741824) (h : ¬ isI q 0 (nI n - 1) = 0) : q.toNatClampNeg < n := by
  obtain ⟨j, hj, hq⟩ := isI0 hn h
  rw [clN hq hj (by omega)]
  exact hj
theorem has_isI {r : Row} {q : Int32} (hn : q_c r < 2147483648) : (q_has r q = 0) = (isI q 0 (nI (q_c r) - 1) = 0) := by
  have h0 : (0 : Int32).toInt = 0 := tI0
  unfold q_has
  by_cases h : 0 ≤ q.toInt ∧ q.toInt < (q_c r : Int)
  · rw [if_pos h]
    refine propext ⟨fun h9 => absurd h9 (by decide), fun h9 => absurd h9 (isI_m hn (fun h8 => ?_) ?_)⟩
    · rw [Int32.lt_iff_toInt_lt, tI0] at h8; omega
    · rw [Int32.lt_iff_toInt_lt, nI_toInt hn]; exact h.2
  · rw [if_neg h]
    refine propext ⟨fun _ => ?_, fun _ => rfl⟩
    by_cases h1 : q < 0
    · exact isI_a h1
    · refine isI_x hn (fun h9 => h ⟨?_, ?_⟩)
      · rw [Int32.lt_iff_toInt_lt, tI0] at h1; omega
      · rw [Int32.lt_iff_toInt_lt, nI_toInt hn] at h9; exact h9

set_option maxHeartbeats 4000000 in
set_option maxRecDepth 100000 in
theorem c_X4_requireModel (l : Launch) (hnt : l.stackTraces = false) (D : va_G) (cI cL cM : ClassId) (A : Nat → Prop) (sa : Nat → Nat) (a : Nat → Nat) (x : Mx) (q : Int32) (hn6 : k_n (x_pr x) ≤ 6) : mRx l yX4_requireModel wsX4_requireModel ({ frames := 6, cells := 1, slots := 6, locals := 90 }) D (tB cI cL cM) A sa [.ref (a 0), .int q] (mxW cI cL cM a x) (a (11 + 4 * q.toNatClampNeg)) (mxW cI cL cM a x) (¬ isI q 0 (nI (k_n (x_pr x)) - 1) = 0) (fun E => E = IOB ∧ isI q 0 (nI (k_n (x_pr x)) - 1) = 0) 1 6 := by
  refine vx_ofW (cc := cX4_requireModel) (maxL := 2) (ret := (some (.object "BitMixer$Model"))) (by decide) rfl ?_
  intro p e s m args below meth c s₁ B hml htab hv
  obtain ⟨rfl, hP, hEX, hD, hA⟩ := hv
  have hE := hEX.1
  have hK := hE.1
  have hx := B.exec
  have hb := B.bytes
  have hr := B.returns
  have hts := atoms_spec (ws := wsX4_requireModel) B.pre
  have hown : s.vm.findClass RX4 = some m.cls := findClass_of_methodNamed B.named
  have hlocks := B.notSynchronized
  have hS : va_S A s.heap s.heap [] := va_S.rf
  have hl := lv_entry ([.ref (a 0), .int q]) (n := 2) (Nat.le_of_ble_eq_true rfl)
  rw [lg_entry_eq]
  generalize (lg_sl ([.ref (a 0), .int q]) ++ List.replicate (2 - (lg_sl ([.ref (a 0), .int q])).length) Slot.unset).toArray = ls at hl ⊢
  have hl : lv_has ls 2 [(0, .ref (a 0)), (1, .int q)] := hl
  refine lv_iload_n hx hb dX4_requireModel_0 rfl (lv_at hl 1 rfl) ?_
  refine lv_if_lt (tgt := 15) hx hb dX4_requireModel_1 (by decide) (fun c1 => ?_) (fun c1 => ?_)
  · replace c1 : q < (0 : Int32) := c1
    exact vx_throwS (text := "there is no such model") (names := xNames) (sa := sa 205) (A := A) hx hb hnt hown (by decide) (by decide) (hts _ (List.mem_of_getElem? (i := 1) rfl)) (hts _ (List.mem_of_getElem? (i := 2) rfl)) (hEX.2.2.2.1 (205, "there is no such model") (by decide)) (vx_hat (fun w hw => hts w ((fun _ h => List.mem_cons_of_mem _ (List.mem_append_right _ h)) w hw)) iob_bad (xW_use hEX.2.2.2.2 _)) iob_good hEX.2.1 hEX.2.2.1 hS (hl.1.trans hml.symm) dX4_requireModel_15 dX4_requireModel_18 dX4_requireModel_19 dX4_requireModel_21 dX4_requireModel_24 (fun x hx9 => (htab x hx9).elim) (Nat.le_of_ble_eq_true rfl) (Nat.le_of_ble_eq_true rfl) (Nat.le_of_ble_eq_true rfl) (Nat.le_of_ble_eq_true rfl) hlocks (fun t hvm hz hk => ⟨(), trivial, ⟨⟨rfl, isI_a c1⟩, kept_P hP hk, hD⟩, thF hS hz hk⟩) hS.2.2 (Nat.le_of_ble_eq_true rfl) (Nat.le_of_ble_eq_true rfl)
  · replace c1 : ¬ q < (0 : Int32) := c1
    refine lv_iload_n hx hb dX4_requireModel_4 rfl (lv_at hl 1 rfl) ?_
    refine lv_aload_n hx hb dX4_requireModel_5 rfl (lv_at hl 0 rfl) ?_
    refine va_get (D := D) (ci := 4) (v := .ref (a 7)) (C := RX4) (T := TX4) (N := 5) hx hb hts (fun _ h => List.mem_cons_of_mem _ (List.mem_append_left _ (List.mem_append_left _ (List.mem_append_right _ h)))) hown hK hP 0 rfl rfl 3 (by decide) (hts _ (List.mem_of_getElem? (i := 3) rfl)) (fun _ h9 => h9) rfl dX4_requireModel_6 ?_
    refine va_get (D := D) (ci := 3) (v := .int (nI (k_n (x_pr x)))) (C := RX3) (T := TX3) (N := 7) hx hb hts (fun _ h => List.mem_cons_of_mem _ (List.mem_append_left _ (List.mem_append_right _ h))) hown hK hP 7 rfl rfl 1 (by decide) (hts _ (List.mem_of_getElem? (i := 4) rfl)) (fun _ h9 => h9) rfl dX4_requireModel_9 ?_
    refine lv_icmp_lt (tgt := 25) hx hb dX4_requireModel_12 (by decide) (fun c2 => ?_) (fun c2 => ?_)
    · replace c2 : q < (nI (k_n (x_pr x))) := c2
      have cq := isI_m (by omega) c1 c2
      obtain ⟨j, hjn, hq9⟩ := isI0 (by omega) cq
      have hj6 : j < 6 := by omega
      have hcl := clN hq9 hj6 (Nat.le_of_ble_eq_true rfl)
      refine lv_aload_n hx hb dX4_requireModel_25 rfl (lv_at hl 0 rfl) ?_
      refine va_get (D := D) (ci := 4) (v := .ref (a 7)) (C := RX4) (T := TX4) (N := 5) hx hb hts (fun _ h => List.mem_cons_of_mem _ (List.mem_append_left _ (List.mem_append_left _ (List.mem_append_right _ h)))) hown hK hP 0 rfl rfl 3 (by decide) (hts _ (List.mem_of_getElem? (i := 3) rfl)) (fun _ h9 => h9) rfl dX4_requireModel_26 ?_
      refine va_get (D := D) (ci := 3) (v := .ref (a 8)) (C := RX3) (T := TX3) (N := 7) hx hb hts (fun _ h => List.mem_cons_of_mem _ (List.mem_append_left _ (List.mem_append_right _ h))) hown hK hP 7 rfl rfl 0 (by decide) (hts _ (List.mem_of_getElem? (i := 5) rfl)) (fun _ h9 => h9) rfl dX4_requireModel_29 ?_
      refine lv_iload_n hx hb dX4_requireModel_32 rfl (lv_at hl 1 rfl) ?_
      refine topI (y := nI j) (hq9) ?_
      refine aldN hx hb hK hP 8 2 rfl rfl j (hj6) (Nat.le_of_ble_eq_true rfl) rfl dX4_requireModel_33 ?_
      refine vx_ret ?_
      refine W.widen (k := 1) (n := 6) (Nat.le_of_ble_eq_true rfl) (Nat.le_of_ble_eq_true rfl) ?_
      exact W.aret (v := .ref (a (11 + 4 * j))) hx hb hr (Or.inl ⟨_, rfl⟩) (Or.inr ⟨_, rfl⟩) (fun t ht hW => ⟨⟨(), (a (11 + 4 * j)), rfl, cq, by rw [hcl], by rw [ht]; exact hP, hD⟩, hS.F ht⟩) hS.2.2 dX4_requireModel_34
    · replace c2 : ¬ q < (nI (k_n (x_pr x))) := c2
      exact vx_throwS (text := "there is no such model") (names := xNames) (sa := sa 205) (A := A) hx hb hnt hown (by decide) (by decide) (hts _ (List.mem_of_getElem? (i := 1) rfl)) (hts _ (List.mem_of_getElem? (i := 2) rfl)) (hEX.2.2.2.1 (205, "there is no such model") (by decide)) (vx_hat (fun w hw => hts w ((fun _ h => List.mem_cons_of_mem _ (List.mem_append_right _ h)) w hw)) iob_bad (xW_use hEX.2.2.2.2 _)) iob_good hEX.2.1 hEX.2.2.1 hS (hl.1.trans hml.symm) dX4_requireModel_15 dX4_requireModel_18 dX4_requireModel_19 dX4_requireModel_21 dX4_requireModel_24 (fun x hx9 => (htab x hx9).elim) (Nat.le_of_ble_eq_true rfl) (Nat.le_of_ble_eq_true rfl) (Nat.le_of_ble_eq_true rfl) (Nat.le_of_ble_eq_true rfl) hlocks (fun t hvm hz hk => ⟨(), trivial, ⟨⟨rfl, isI_x (by omega) c2⟩, kept_P hP hk, hD⟩, thF hS hz hk⟩) hS.2.2 (Nat.le_of_ble_eq_true rfl) (Nat.le_of_ble_eq_true rfl)

set_option maxHeartbeats 4000000 in
set_option maxRecDepth 100000 in
theorem c_X4_requireRoom (l : Launch) (hnt : l.stackTraces = false) (D : va_G) (cI cL cM : ClassId) (A : Nat → Prop) (sa : Nat → Nat) (a : Nat → Nat) (x : Mx) (j : Nat) (hj : j ≤ 80) (htc : q_c (x_tx x) ≤ 80) : mVy l yX4_requireRoom wsX4_requireRoom ({ frames := 6, cells := 1, slots := 6, locals := 90 }) D (tB cI cL cM) A sa [.ref (a 0), .int (nI j)] (mxW cI cL cM a x) (mxW cI cL cM a x) (q_c (x_tx x) + j ≤ 80) (fun E => E = ISE ∧ ¬ (q_c (x_tx x) + j ≤ 80)) 1 6 := by
  refine vx_ofW (cc := cX4_requireRoom) (maxL := 2) (ret := none) (by decide) rfl ?_
  intro p e s m args below meth c s₁ B hml htab hv
  obtain ⟨rfl, hP, hEX, hD, hA⟩ := hv
  have hE := hEX.1
  have hK := hE.1
  have hx := B.exec
  have hb := B.bytes
  have hr := B.returns
  have hts := atoms_spec (ws := wsX4_requireRoom) B.pre
  have hown : s.vm.findClass RX4 = some m.cls := findClass_of_methodNamed B.named
  have hlocks := B.notSynchronized
  have hS : va_S A s.heap s.heap [] := va_S.rf
  have hl := lv_entry ([.ref (a 0), .int (nI j)]) (n := 2) (Nat.le_of_ble_eq_true rfl)
  rw [lg_entry_eq]
  generalize (lg_sl ([.ref (a 0), .int (nI j)]) ++ List.replicate (2 - (lg_sl ([.ref (a 0), .int (nI j)])).length) Slot.unset).toArray = ls at hl ⊢
  have hl : lv_has ls 2 [(0, .ref (a 0)), (1, .int (nI j))] := hl
  refine lv_iload_n hx hb dX4_requireRoom_0 rfl (lv_at hl 1 rfl) ?_
  refine lv_bipush (v := 80) hx hb dX4_requireRoom_1 (by decide) ?_
  refine lv_aload_n hx hb dX4_requireRoom_3 rfl (lv_at hl 0 rfl) ?_
  refine va_get (D := D) (ci := 4) (v := .ref (a 1)) (C := RX4) (T := TX4) (N := 5) hx hb hts (fun _ h => List.mem_cons_of_mem _ (List.mem_append_left _ (List.mem_append_left _ (List.mem_append_right _ h)))) hown hK hP 0 rfl rfl 0 (by decide) (hts _ (List.mem_of_getElem? (i := 3) rfl)) (fun _ h9 => h9) rfl dX4_requireRoom_4 ?_
  refine va_get (D := D) (ci := 0) (v := .int (nI (q_c (x_tx x)))) (C := RX0) (T := TX0) (N := 2) hx hb hts (fun _ h => List.mem_cons_of_mem _ (List.mem_append_left _ (List.mem_append_right _ h))) hown hK hP 1 rfl rfl 1 (by decide) (hts _ (List.mem_of_getElem? (i := 4) rfl)) (fun _ h9 => h9) rfl dX4_requireRoom_7 ?_
  refine lv_isub hx hb dX4_requireRoom_10 ?_
  refine topI (y := nI (80 - q_c (x_tx x))) (pk_sub (a := 80) htc) ?_
  refine lv_icmp_le (tgt := 24) hx hb dX4_requireRoom_11 (by decide) (fun c1 => ?_) (fun c1 => ?_)
  · replace c1 : (nI j) ≤ (nI (80 - q_c (x_tx x))) := c1
    have c2 : q_c (x_tx x) + j ≤ 80 := by have h9 := ge_N (by omega) (by omega) c1; omega
    refine vx_ret ?_
    refine W.widen (k := 1) (n := 6) (Nat.le_of_ble_eq_true rfl) (Nat.le_of_ble_eq_true rfl) ?_
    exact W.vret hx hb hr (fun t ht hW => ⟨⟨(), rfl, c2, by rw [ht]; exact hP, hD⟩, hS.F ht⟩) hS.2.2 dX4_requireRoom_24
  · replace c1 : ¬ (nI j) ≤ (nI (80 - q_c (x_tx x))) := c1
    have c2 : ¬ (q_c (x_tx x) + j ≤ 80) := by have h9 := nge_N (by omega) (by omega) c1; omega
    exact vx_throwS (text := "the text would have more than 80 bytes") (names := xNames) (sa := sa 215) (A := A) hx hb hnt hown (by decide) (by decide) (hts _ (List.mem_of_getElem? (i := 1) rfl)) (hts _ (List.mem_of_getElem? (i := 2) rfl)) (hEX.2.2.2.1 (215, "the text would have more than 80 bytes") (by decide)) (vx_hat (fun w hw => hts w ((fun _ h => List.mem_cons_of_mem _ (List.mem_append_right _ h)) w hw)) ise_bad (xW_use hEX.2.2.2.2 _)) ise_good hEX.2.1 hEX.2.2.1 hS (hl.1.trans hml.symm) dX4_requireRoom_14 dX4_requireRoom_17 dX4_requireRoom_18 dX4_requireRoom_20 dX4_requireRoom_23 (fun x hx9 => (htab x hx9).elim) (Nat.le_of_ble_eq_true rfl) (Nat.le_of_ble_eq_true rfl) (Nat.le_of_ble_eq_true rfl) (Nat.le_of_ble_eq_true rfl) hlocks (fun t hvm hz hk => ⟨(), trivial, ⟨⟨rfl, c2⟩, kept_P hP hk, hD⟩, thF hS hz hk⟩) hS.2.2 (Nat.le_of_ble_eq_true rfl) (Nat.le_of_ble_eq_true rfl)

set_option maxHeartbeats 4000000 in
set_option maxRecDepth 100000 in
theorem c_X4_requirePlace (l : Launch) (hnt : l.stackTraces = false) (D : va_G) (cI cL cM : ClassId) (A : Nat → Prop) (sa : Nat → Nat) (h0 h1 lim : Nat) (r : Row) (q : Int32) (hc : q_c r ≤ lim) (hm : lim < 2147483648) : mIy l yX4_requirePlace wsX4_requirePlace ({ frames := 6, cells := 1, slots := 6, locals := 90 }) D (tB cI cL cM) A sa [.ref h0, .int q] (rowW cI h0 h1 lim r) (q_at r q) (rowW cI h0 h1 lim r) (¬ q_has r q = 0) (fun E => E = IOB ∧ q_has r q = 0) 1 6 := by
  refine vx_ofW (cc := cX4_requirePlace) (maxL := 2) (ret := (some .int)) (by decide) rfl ?_
  intro p e s m args below meth c s₁ B hml htab hv
  obtain ⟨rfl, hP, hEX, hD, hA⟩ := hv
  have hE := hEX.1
  have hK := hE.1
  have hx := B.exec
  have hb := B.bytes
  have hr := B.returns
  have hts := atoms_spec (ws := wsX4_requirePlace) B.pre
  have hown : s.vm.findClass RX4 = some m.cls := findClass_of_methodNamed B.named
  have hlocks := B.notSynchronized
  have hS : va_S A s.heap s.heap [] := va_S.rf
  have hl := lv_entry ([.ref h0, .int q]) (n := 2) (Nat.le_of_ble_eq_true rfl)
  rw [lg_entry_eq]
  generalize (lg_sl ([.ref h0, .int q]) ++ List.replicate (2 - (lg_sl ([.ref h0, .int q])).length) Slot.unset).toArray = ls at hl ⊢
  have hl : lv_has ls 2 [(0, .ref h0), (1, .int q)] := hl
  refine lv_aload_n hx hb dX4_requirePlace_0 rfl (lv_at hl 0 rfl) ?_
  refine lv_iload_n hx hb dX4_requirePlace_1 rfl (lv_at hl 1 rfl) ?_
  refine kI (rV (As := [.int q]) (rest := []) ⟨hx, hb, hml, hown, hts⟩ (c_X0_has l D cI cL cM _ h0 h1 lim r q hc hm) (cwV 1 hts gX4_requirePlace_X0_has rfl rfl rfl (by decide +kernel) ⟨(Nat.le_of_ble_eq_true rfl), (Nat.le_of_ble_eq_true rfl)⟩) hE hP hD [0, 1] rfl rfl rfl rfl rfl hl.1 rfl (Nat.le_of_ble_eq_true rfl) dX4_requirePlace_2 ⟨(Nat.le_of_ble_eq_true rfl), (Nat.le_of_ble_eq_true rfl)⟩) hP hD hS hA (is := [0, 1]) rfl rfl (fun H locs hP hD hS => ?_)
  rw [rowW_all] at hP hD
  have hP : va_P D vwCl (rowW cI h0 h1 lim r) H := hP
  have hD : va_D A (rowW cI h0 h1 lim r) := hD
  refine lv_if_ne (tgt := 18) hx hb dX4_requirePlace_5 (by decide) (fun c1 => ?_) (fun c1 => ?_)
  · replace c1 : ¬ (q_has r q) = (0 : Int32) := c1
    refine lv_aload_n hx hb dX4_requirePlace_18 rfl (lv_at hl 0 rfl) ?_
    refine lv_iload_n hx hb dX4_requirePlace_19 rfl (lv_at hl 1 rfl) ?_
    refine kI (rV (As := [.int q]) (rest := []) ⟨hx, hb, hml, hown, hts⟩ (c_X0_at l D cI cL cM _ h0 h1 lim r q hc hm) (cwV 1 hts gX4_requirePlace_X0_at rfl rfl rfl (by decide +kernel) ⟨(Nat.le_of_ble_eq_true rfl), (Nat.le_of_ble_eq_true rfl)⟩) hE hP hD [0, 1] rfl rfl rfl rfl rfl hl.1 rfl (Nat.le_of_ble_eq_true rfl) dX4_requirePlace_20 ⟨(Nat.le_of_ble_eq_true rfl), (Nat.le_of_ble_eq_true rfl)⟩) hP hD hS hA (is := [0, 1]) rfl rfl (fun H locs hP hD hS => ?_)
    rw [rowW_all] at hP hD
    have hP : va_P D vwCl (rowW cI h0 h1 lim r) H := hP
    have hD : va_D A (rowW cI h0 h1 lim r) := hD
    refine vx_ret ?_
    refine W.widen (k := 1) (n := 6) (Nat.le_of_ble_eq_true rfl) (Nat.le_of_ble_eq_true rfl) ?_
    exact W.iret (v := (q_at r q)) hx hb hr (fun t ht hW => ⟨⟨(q_at r q), (), rfl, ⟨by rfl, c1⟩, by rw [ht]; exact hP, hD⟩, hS.F ht⟩) hS.2.2 dX4_requirePlace_23
  · replace c1 : (q_has r q) = (0 : Int32) := c1
    exact vx_throwS (text := "there is no such place") (names := xNames) (sa := sa 221) (A := A) hx hb hnt hown (by decide) (by decide) (hts _ (List.mem_of_getElem? (i := 1) rfl)) (hts _ (List.mem_of_getElem? (i := 2) rfl)) (hEX.2.2.2.1 (221, "there is no such place") (by decide)) (vx_hat (fun w hw => hts w ((fun _ h => List.mem_cons_of_mem _ (List.mem_append_right _ h)) w hw)) iob_bad (xW_use hEX.2.2.2.2 _)) iob_good hEX.2.1 hEX.2.2.1 hS (hl.1.trans hml.symm) dX4_requirePlace_8 dX4_requirePlace_11 dX4_requirePlace_12 dX4_requirePlace_14 dX4_requirePlace_17 (fun x hx9 => (htab x hx9).elim) (Nat.le_of_ble_eq_true rfl) (Nat.le_of_ble_eq_true rfl) (Nat.le_of_ble_eq_true rfl) (Nat.le_of_ble_eq_true rfl) hlocks (fun t hvm hz hk => ⟨(), trivial, ⟨⟨rfl, c1⟩, kept_P hP hk, hD⟩, thF hS hz hk⟩) hS.2.2 (Nat.le_of_ble_eq_true rfl) (Nat.le_of_ble_eq_true rfl)

set_option maxHeartbeats 4000000 in
set_option maxRecDepth 100000 in
theorem c_X4_shorten (l : Launch) (hnt : l.stackTraces = false) (D : va_G) (cI cL cM : ClassId) (A : Nat → Prop) (sa : Nat → Nat) (h0 h1 lim : Nat) (r : Row) (q : Int32) (hc : q_c r ≤ lim) (hm : lim < 2147483648) (hg : lim < 1073741824) : mIy l yX4_shorten wsX4_shorten ({ frames := 6, cells := 1, slots := 6, locals := 90 }) D (tB cI cL cM) A sa [.ref h0, .int q] (rowW cI h0 h1 lim r) (nI (q_c r - q.toNatClampNeg)) (rowW cI h0 h1 lim (qs_c r (q_c r - q.toNatClampNeg))) (¬ isI q 0 (nI (q_c r)) = 0) (fun E => E = IAE ∧ isI q 0 (nI (q_c r)) = 0) 1 6 := by
  refine vx_ofW (cc := cX4_shorten) (maxL := 2) (ret := (some .int)) (by decide) rfl ?_
  intro p e s m args below meth c s₁ B hml htab hv
  obtain ⟨rfl, hP, hEX, hD, hA⟩ := hv
  have hE := hEX.1
  have hK := hE.1
  have hx := B.exec
  have hb := B.bytes
  have hr := B.returns
  have hts := atoms_spec (ws := wsX4_shorten) B.pre
  have hown : s.vm.findClass RX4 = some m.cls := findClass_of_methodNamed B.named
  have hlocks := B.notSynchronized
  have hS : va_S A s.heap s.heap [] := va_S.rf
  have hl := lv_entry ([.ref h0, .int q]) (n := 2) (Nat.le_of_ble_eq_true rfl)
  rw [lg_entry_eq]
  generalize (lg_sl ([.ref h0, .int q]) ++ List.replicate (2 - (lg_sl ([.ref h0, .int q])).length) Slot.unset).toArray = ls at hl ⊢
  have hl : lv_has ls 2 [(0, .ref h0), (1, .int q)] := hl
  refine lv_iload_n hx hb dX4_shorten_0 rfl (lv_at hl 1 rfl) ?_
  refine lv_if_lt (tgt := 12) hx hb dX4_shorten_1 (by decide) (fun c1 => ?_) (fun c1 => ?_)
  · replace c1 : q < (0 : Int32) := c1
    exact vx_throwS (text := "many is negative, or greater than the size") (names := xNames) (sa := sa 223) (A := A) hx hb hnt hown (by decide) (by decide) (hts _ (List.mem_of_getElem? (i := 1) rfl)) (hts _ (List.mem_of_getElem? (i := 2) rfl)) (hEX.2.2.2.1 (223, "many is negative, or greater than the size") (by decide)) (vx_hat (fun w hw => hts w ((fun _ h => List.mem_cons_of_mem _ (List.mem_append_right _ h)) w hw)) iae_bad (xW_use hEX.2.2.2.2 _)) iae_good hEX.2.1 hEX.2.2.1 hS (hl.1.trans hml.symm) dX4_shorten_12 dX4_shorten_15 dX4_shorten_16 dX4_shorten_18 dX4_shorten_21 (fun x hx9 => (htab x hx9).elim) (Nat.le_of_ble_eq_true rfl) (Nat.le_of_ble_eq_true rfl) (Nat.le_of_ble_eq_true rfl) (Nat.le_of_ble_eq_true rfl) hlocks (fun t hvm hz hk => ⟨(), trivial, ⟨⟨rfl, isI_a c1⟩, kept_P hP hk, hD⟩, thF hS hz hk⟩) hS.2.2 (Nat.le_of_ble_eq_true rfl) (Nat.le_of_ble_eq_true rfl)
  · replace c1 : ¬ q < (0 : Int32) := c1
    refine lv_iload_n hx hb dX4_shorten_4 rfl (lv_at hl 1 rfl) ?_
    refine lv_aload_n hx hb dX4_shorten_5 rfl (lv_at hl 0 rfl) ?_
    refine va_get (D := D) (ci := 0) (v := .int (nI (q_c r))) (C := RX0) (T := TX0) (N := 2) hx hb hts (fun _ h => List.mem_cons_of_mem _ (List.mem_append_left _ (List.mem_append_right _ h))) hown hK hP 0 rfl rfl 1 (by decide) (hts _ (List.mem_of_getElem? (i := 3) rfl)) (fun _ h9 => h9) rfl dX4_shorten_6 ?_
    refine lv_icmp_le (tgt := 22) hx hb dX4_shorten_9 (by decide) (fun c2 => ?_) (fun c2 => ?_)
    · replace c2 : q ≤ (nI (q_c r)) := c2
      have cq := isI_1 c1 (i_nlt c2)
      obtain ⟨j, hjn, hq9⟩ := isI1 (Nat.lt_of_le_of_lt hc hg) cq
      have hcl : q.toNatClampNeg = j := by rw [hq9]; exact nI_clamp (Nat.lt_of_le_of_lt (Nat.le_trans hjn hc) hm)
      refine lv_aload_n hx hb dX4_shorten_22 rfl (lv_at hl 0 rfl) ?_
      refine lv_dup hx hb dX4_shorten_23 rfl ?_
      refine va_get (D := D) (ci := 0) (v := .int (nI (q_c r))) (C := RX0) (T := TX0) (N := 2) hx hb hts (fun _ h => List.mem_cons_of_mem _ (List.mem_append_left _ (List.mem_append_right _ h))) hown hK hP 0 rfl rfl 1 (by decide) (hts _ (List.mem_of_getElem? (i := 3) rfl)) (fun _ h9 => h9) rfl dX4_shorten_24 ?_
      refine lv_iload_n hx hb dX4_shorten_27 rfl (lv_at hl 1 rfl) ?_
      refine lv_isub hx hb dX4_shorten_28 ?_
      refine topI (y := nI (q_c r - j)) (by rw [hq9]; exact pk_sub hjn) ?_
      refine va_put (D := D) (ci := 0) (v := .int (nI (q_c r - j))) (ty := .int) (C := RX0) (T := TX0) (N := 2) hx hb hts (fun _ h => List.mem_cons_of_mem _ (List.mem_append_left _ (List.mem_append_right _ h))) tyX0 tyX0_ok nmX0 hown hK hP hD hS 0 rfl rfl 1 (by decide) (hts _ (List.mem_of_getElem? (i := 3) rfl)) (fun _ h9 => h9) rfl (by decide +kernel) rfl rfl (Nat.le_of_ble_eq_true rfl) dX4_shorten_29 (fun H locs hP hD hS => ?_)
      have hP : va_P D vwCl (rowW cI h0 h1 lim (qs_c r (q_c r - j))) H := hP
      have hD : va_D A (rowW cI h0 h1 lim (qs_c r (q_c r - j))) := hD
      refine lv_aload_n hx hb dX4_shorten_32 rfl (lv_at hl 0 rfl) ?_
      refine va_get (D := D) (ci := 0) (v := .int (nI (q_c r - j))) (C := RX0) (T := TX0) (N := 2) hx hb hts (fun _ h => List.mem_cons_of_mem _ (List.mem_append_left _ (List.mem_append_right _ h))) hown hK hP 0 rfl rfl 1 (by decide) (hts _ (List.mem_of_getElem? (i := 3) rfl)) (fun _ h9 => h9) rfl dX4_shorten_33 ?_
      have hw9 : (rowW cI h0 h1 lim (qs_c r (q_c r - j))) = (rowW cI h0 h1 lim (qs_c r (q_c r - q.toNatClampNeg))) := by rw [hcl]
      rw [hw9] at hP hD
      refine vx_ret ?_
      refine W.widen (k := 1) (n := 6) (Nat.le_of_ble_eq_true rfl) (Nat.le_of_ble_eq_true rfl) ?_
      exact W.iret (v := nI (q_c r - j)) hx hb hr (fun t ht hW => ⟨⟨(nI (q_c r - j)), (), rfl, ⟨by rw [hcl], cq⟩, by rw [ht]; exact hP, hD⟩, hS.F ht⟩) hS.2.2 dX4_shorten_36
    · replace c2 : ¬ q ≤ (nI (q_c r)) := c2
      exact vx_throwS (text := "many is negative, or greater than the size") (names := xNames) (sa := sa 223) (A := A) hx hb hnt hown (by decide) (by decide) (hts _ (List.mem_of_getElem? (i := 1) rfl)) (hts _ (List.mem_of_getElem? (i := 2) rfl)) (hEX.2.2.2.1 (223, "many is negative, or greater than the size") (by decide)) (vx_hat (fun w hw => hts w ((fun _ h => List.mem_cons_of_mem _ (List.mem_append_right _ h)) w hw)) iae_bad (xW_use hEX.2.2.2.2 _)) iae_good hEX.2.1 hEX.2.2.1 hS (hl.1.trans hml.symm) dX4_shorten_12 dX4_shorten_15 dX4_shorten_16 dX4_shorten_18 dX4_shorten_21 (fun x hx9 => (htab x hx9).elim) (Nat.le_of_ble_eq_true rfl) (Nat.le_of_ble_eq_true rfl) (Nat.le_of_ble_eq_true rfl) (Nat.le_of_ble_eq_true rfl) hlocks (fun t hvm hz hk => ⟨(), trivial, ⟨⟨rfl, isI_b (i_lt c2)⟩, kept_P hP hk, hD⟩, thF hS hz hk⟩) hS.2.2 (Nat.le_of_ble_eq_true rfl) (Nat.le_of_ble_eq_true rfl)
