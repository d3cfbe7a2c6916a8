/-! ===== the start: what the tables and the Statement give ===== -/
theorem tb {s : State} {args : Array Value} (hts : ∀ w ∈ lw_tbl, w.before args s = true) (k : Nat) {w : Cond} (h : tables_1[k]? = some w) : w.before args s = true := hts w (List.mem_append_right _ (List.mem_of_getElem? h))
def saOf (s : State) (k : Nat) : Nat := match (Term.string RX4 k).eval #[] s none [] s with
  | some (.ref a) => a
  | _ => 0
theorem vkS {s : State} {args : Array Value} {k : Nat} {t : String} (h1 : (Cond.stringRef RX4 k t).before args s = true) (h2 : (Cond.exactly (.string RX4 k) "java/lang/String").before args s = true) : vk_R RX4 k t (saOf s k) s := by
  obtain ⟨a, -, -, -, q1, -⟩ := Cond.exactly_spec h2
  have q2 : (Term.string RX4 k).eval #[] s none [] s = some (.ref a) := q1
  have e : saOf s k = a := by unfold saOf; rw [q2]
  rw [e]
  exact vk_R.of h1 q1
theorem perm_C (X C : va_W) (q : Nat × va_E) : (segI 0 X.length ++ ((X.length + C.length) :: segI X.length C.length)).map (fun i => ((X ++ C) ++ [q])[i]?) = ((X ++ [q]) ++ C).map some := by
  have h1 := segC X [] (C ++ [q])
  have h2 := segC C X [q]
  have e : (X ++ C) ++ [q] = X ++ (C ++ [q]) := List.append_assoc _ _ _
  have h3 : (X ++ (C ++ [q]))[X.length + C.length]? = some q := by
    rw [← e, List.getElem?_append_right (by simp)]
    simp
  rw [e, List.map_append, List.map_cons, h2, h3]
  have h1' : (segI 0 X.length).map (fun i => (X ++ (C ++ [q]))[i]?) = X.map some := h1
  rw [h1']
  simp
theorem Rel_0 : Rel mx0 (r_clr u00) 0 := by
  unfold Rel
  rw [r_clr_sz, r_clr_tx, r_clr_cs, r_clr_cd, r_clr_mk, r_clr_ou]
  have hz : ∀ (f : Nat → Int32), RowQ row0 0 f := fun f => ⟨rfl, fun i hi => absurd hi (Nat.not_lt_zero _)⟩
  have hb : RowB row0 := fun i hi => absurd hi (Nat.not_lt_zero _)
  exact ⟨PR_rs ⟨⟨rfl, Nat.zero_le _⟩, fun j hj => absurd hj (Nat.not_lt_zero _)⟩, ⟨0, Nat.zero_le _, k_rs_bt _⟩, ⟨hz _, hb, Nat.zero_le _⟩, ⟨hz _, hb, Nat.zero_le _⟩, hz _, Nat.zero_le _⟩

set_option maxHeartbeats 4000000 in
set_option maxRecDepth 100000 in
theorem lw_setup {p : Program} {s : State} {m : MethodId} {meth : Method} {c : Code} {b L : Nat} {xs : Nat → Int32} (C0 : lw_At p s m meth c b L xs) : ∃ (D : va_G) (cI cL cM : ClassId) (sa : Nat → Nat), evX D (tB cI cL cM) (fun q : Nat => s.heap.size ≤ q) sa s ∧ evN s ∧ va_AO RX2 s ∧ ∀ w ∈ wsL_law, w.before #[Value.ref b] s = true := by
  obtain ⟨hx, hb, hr, hml, hown, hts0, hX, hbl, hlocks, hgv⟩ := C0
  have htb := hts0
  have hgs := flat_of_before _ hgv
  have hts : ∀ w ∈ wsL_law, w.before #[Value.ref b] s = true := fun w h => hts0 w (wsL_law_in w h)
  obtain ⟨c0, s0, hKn0⟩ := u_known (C := RX0) (T := TX0) (N := 2) (n := 2) hts0 inX0 (hts _ (List.mem_of_getElem? (i := 15) rfl))
  obtain ⟨c1, s1, hKn1⟩ := u_known (C := RX1) (T := TX1) (N := 4) (n := 4) hts0 inX1 (hts _ (List.mem_of_getElem? (i := 25) rfl))
  obtain ⟨c2, s2, hKn2⟩ := u_known (C := RX2) (T := TX2) (N := 10) (n := 10) hts0 inX2 (hts _ (List.mem_of_getElem? (i := 45) rfl))
  obtain ⟨c3, s3, hKn3⟩ := u_known (C := RX3) (T := TX3) (N := 7) (n := 7) hts0 inX3 (hts _ (List.mem_of_getElem? (i := 21) rfl))
  obtain ⟨c4, s4, hKn4⟩ := u_known (C := RX4) (T := TX4) (N := 5) (n := 5) hts0 inX4 (hts _ (List.mem_of_getElem? (i := 1) rfl))
  obtain ⟨c5, s5, hKn5⟩ := u_known (C := RX5) (T := TX5) (N := 22) (n := 22) hts0 inX5 (hts _ (List.mem_of_getElem? (i := 4) rfl))
  obtain ⟨dC, dI, hKc⟩ : ∃ (dC : Nat → ClassId) (dI : Nat → Nat → Nat), ∀ (k : Nat) (q : vw_C), vwCl[k]? = some q → u_Kn s q.1 q.2.1 q.2.2 (dC k) (dI k) := by
    refine ⟨fun k => if k = 0 then c0 else if k = 1 then c1 else if k = 2 then c2 else if k = 3 then c3 else if k = 4 then c4 else c5, fun k => if k = 0 then s0 else if k = 1 then s1 else if k = 2 then s2 else if k = 3 then s3 else if k = 4 then s4 else s5, ?_⟩
    intro k q hq
    match k, hq with
    | 0, hq => cases hq; exact hKn0
    | 1, hq => cases hq; exact hKn1
    | 2, hq => cases hq; exact hKn2
    | 3, hq => cases hq; exact hKn3
    | 4, hq => cases hq; exact hKn4
    | 5, hq => cases hq; exact hKn5
    | k + 6, hq => simp [vwCl] at hq
  obtain ⟨cI, kI, pI, i1, i2, i3⟩ := Cond.arrayClass_spec (type := .int) (tb htb 40 (by decide +kernel))
  obtain ⟨cL, kL, pL, l1, l2, l3⟩ := Cond.arrayClass_spec (type := .long) (tb htb 93 (by decide +kernel))
  have hO0 : (Cond.arrayOver (.object RX2)).before #[Value.ref b] s = true := (tb htb 48 (by decide +kernel))
  have hO : va_AO RX2 s := va_AO.of hO0
  obtain ⟨pM, cM, kM, m1, m2, m3, m4, m5⟩ := Cond.arrayOver_spec hO0
  have hK : va_K (dC, dI) vwCl (tB cI cL cM) s := by
    refine ⟨hKc, fun k q h => ?_⟩
    match k, h with
    | 0, h => cases h; exact ⟨fun n z => ⟨fun k h => (by cases h), kI, i2, pI, i3⟩, i1⟩
    | 1, h => cases h; exact ⟨fun n z => ⟨fun k h => (by cases h), kL, l2, pL, l3⟩, l1⟩
    | 2, h => cases h; exact ⟨fun n z => ⟨fun k h => (by cases h), kM, m3, pM, m4⟩, kM, pM, m3, m4, m1, m5⟩
    | k + 3, h => simp [tB] at h
  refine ⟨(dC, dI), cI, cL, cM, saOf s, ⟨⟨hK, ?_, ?_⟩, ?_, ?_, ?_, ?_⟩, ⟨?_, ?_⟩, hO, hts⟩
  · exact va_any rfl (tb htb 241 (by decide +kernel))
  · exact va_any rfl (tb htb 233 (by decide +kernel))
  · exact vx_Zqof (tb htb 389 (by decide +kernel)) (tb htb 9 (by decide +kernel)) (hgs _ (by decide +kernel)) (fun a h => Nat.not_le.mpr h)
  · exact vx_Zqof (tb htb 391 (by decide +kernel)) (tb htb 9 (by decide +kernel)) (hgs _ (by decide +kernel)) (fun a h => Nat.not_le.mpr h)
  · exact List.forall_mem_cons.mpr ⟨vkS (tb htb 403 (by decide +kernel)) (hgs _ (by decide +kernel)), List.forall_mem_cons.mpr ⟨vkS (tb htb 433 (by decide +kernel)) (hgs _ (by decide +kernel)), List.forall_mem_cons.mpr ⟨vkS (tb htb 434 (by decide +kernel)) (hgs _ (by decide +kernel)), List.forall_mem_cons.mpr ⟨vkS (tb htb 444 (by decide +kernel)) (hgs _ (by decide +kernel)), List.forall_mem_cons.mpr ⟨vkS (tb htb 466 (by decide +kernel)) (hgs _ (by decide +kernel)), List.forall_mem_cons.mpr ⟨vkS (tb htb 492 (by decide +kernel)) (hgs _ (by decide +kernel)), List.forall_mem_cons.mpr ⟨vkS (tb htb 506 (by decide +kernel)) (hgs _ (by decide +kernel)), List.forall_mem_cons.mpr ⟨vkS (tb htb 511 (by decide +kernel)) (hgs _ (by decide +kernel)), List.forall_mem_cons.mpr ⟨vkS (tb htb 522 (by decide +kernel)) (hgs _ (by decide +kernel)), List.forall_mem_cons.mpr ⟨vkS (tb htb 523 (by decide +kernel)) (hgs _ (by decide +kernel)), List.forall_mem_cons.mpr ⟨vkS (tb htb 534 (by decide +kernel)) (hgs _ (by decide +kernel)), List.forall_mem_cons.mpr ⟨vkS (tb htb 546 (by decide +kernel)) (hgs _ (by decide +kernel)), List.forall_mem_cons.mpr ⟨vkS (tb htb 570 (by decide +kernel)) (hgs _ (by decide +kernel)), List.forall_mem_cons.mpr ⟨vkS (tb htb 578 (by decide +kernel)) (hgs _ (by decide +kernel)), List.forall_mem_cons.mpr ⟨vkS (tb htb 593 (by decide +kernel)) (hgs _ (by decide +kernel)), List.forall_mem_cons.mpr ⟨vkS (tb htb 626 (by decide +kernel)) (hgs _ (by decide +kernel)), fun _ h => absurd h List.not_mem_nil⟩⟩⟩⟩⟩⟩⟩⟩⟩⟩⟩⟩⟩⟩⟩⟩
  · exact List.forall_mem_cons.mpr ⟨va_any rfl (tb htb 366 (by decide +kernel)), List.forall_mem_cons.mpr ⟨va_any rfl (tb htb 368 (by decide +kernel)), List.forall_mem_cons.mpr ⟨va_any rfl (tb htb 370 (by decide +kernel)), List.forall_mem_cons.mpr ⟨va_any rfl (tb htb 364 (by decide +kernel)), List.forall_mem_cons.mpr ⟨va_any rfl (tb htb 437 (by decide +kernel)), List.forall_mem_cons.mpr ⟨va_any rfl (tb htb 485 (by decide +kernel)), fun _ h => absurd h List.not_mem_nil⟩⟩⟩⟩⟩⟩
  · exact va_Nc.of (hgs _ (by decide +kernel))
  · exact va_Nc.of (hgs _ (by decide +kernel))

set_option maxHeartbeats 4000000 in
set_option maxRecDepth 100000 in
/-- from the entry, for every script of at most 2048 ints, the law comes to its end with true -/
theorem whole_start {p : Program} {e : Env} {s : State} {m : MethodId} {below : List Frame} {meth : Method} {c : Code} (l : Launch) (hflags : l.flags = flags0) {b L : Nat} {xs : Nat → Int32} (hL : L ≤ 2048) (C0 : lw_At p s m meth c b L xs) : W p l e room_1 s m #[Value.ref b] below meth c s.heap [] 0 0 (lw_Z below #[Value.ref b] s) (entryFrame m ([Value.ref b] : List Value).toArray 9) := by
  obtain ⟨D, cI, cL, cM, sa, hEX, hN, hO, hts⟩ := lw_setup C0
  obtain ⟨hx, hb, hr, hml, hown, hts0, hX, hbl, hlocks, hgv⟩ := id C0
  have hb : c.code = cL_law := hb
  have hnt : l.stackTraces = false := by rw [Launch.stackTraces, hflags]; rfl
  have hE := hEX.1
  have hK := hE.1
  have hA : ∀ q : Nat, s.heap.size ≤ q → (fun q : Nat => s.heap.size ≤ q) q := fun _ h => h
  have hbA : ¬ (fun q : Nat => s.heap.size ≤ q) b := Nat.not_le.mpr hbl
  have hd0 := Drawn.sameBut.refl s.drawn lw_cs
  have hS : va_S (fun q : Nat => s.heap.size ≤ q) s.heap s.heap [] := va_S.rf
  have hP : va_P D vwCl [] s.heap := fun k q h => by simp at h
  have hD : va_D (fun q : Nat => s.heap.size ≤ q) [] := ⟨fun i j p q h => by simp at h, fun k q h => by simp at h⟩
  have hl := lv_entry ([.ref b]) (n := 9) (Nat.le_of_ble_eq_true rfl)
  rw [lg_entry_eq]
  generalize (lg_sl ([.ref b]) ++ List.replicate (9 - (lg_sl ([.ref b])).length) Slot.unset).toArray = ls at hl ⊢
  have hl : lv_has ls 9 [(0, .ref b)] := hl
  refine va_new (ci := 4) (fs := [.null, .null, .null, .null, .null]) (C := RX4) (T := TX4) (N := 5) hx hb hts inlX4 tyX4 tyX4_ok hown (hts _ (List.mem_of_getElem? (i := 0) rfl)) (hts _ (List.mem_of_getElem? (i := 1) rfl)) (hts _ (List.mem_of_getElem? (i := 2) rfl)) hK hP hD hS hA rfl nw4_df (Nat.le_of_ble_eq_true rfl) (Nat.le_of_ble_eq_true rfl) dL_law_0 (fun q1 H hP hD hS => ?_)
  refine lv_dup hx hb dL_law_3 rfl ?_
  refine kC (As := []) (rest := [.ref q1]) ⟨hx, hb, hml, hown, hts⟩ (c_X4_init l D cI cL cM _ q1) (cwI 0 hts gL_law_X4_init rfl rfl rfl (hts _ (List.mem_of_getElem? (i := 2) rfl)) (hts _ (List.mem_of_getElem? (i := 8) rfl)) (hts _ (List.mem_of_getElem? (i := 9) rfl)) rfl (by decide +kernel) ⟨(Nat.le_of_ble_eq_true rfl), (Nat.le_of_ble_eq_true rfl)⟩) hE hO hP hD hS hA rfl hl.1 rfl (Nat.le_of_ble_eq_true rfl) dL_law_4 ⟨(Nat.le_of_ble_eq_true rfl), (Nat.le_of_ble_eq_true rfl)⟩ (fun ua H locs hP hD hS => ?_)
  refine lv_astore_n (lv' := [(1, .ref q1), (0, .ref b)]) hx hb dL_law_7 rfl hl (by decide) rfl (fun ls hl => ?_)
  refine va_new (ci := 5) (fs := [.int 0, .int 0, .null, .null, .null, .int 0, .null, .null, .null, .null, .null, .null, .null, .int 0, .int 0, .long 0, .int 0, .null, .int 0, .null, .long 0, .long 0]) (C := RX5) (T := TX5) (N := 22) hx hb hts inlX5 tyX5 tyX5_ok hown (hts _ (List.mem_of_getElem? (i := 3) rfl)) (hts _ (List.mem_of_getElem? (i := 4) rfl)) (hts _ (List.mem_of_getElem? (i := 5) rfl)) hK hP hD hS hA rfl nw5_df (Nat.le_of_ble_eq_true rfl) (Nat.le_of_ble_eq_true rfl) dL_law_8 (fun q2 H hP hD hS => ?_)
  refine lv_dup hx hb dL_law_11 rfl ?_
  refine kC (As := []) (rest := [.ref q2]) ⟨hx, hb, hml, hown, hts⟩ (c_X5_init l D cI cL cM _ q2) (cwI 0 hts gL_law_X5_init rfl rfl rfl (hts _ (List.mem_of_getElem? (i := 5) rfl)) (hts _ (List.mem_of_getElem? (i := 119) rfl)) (hts _ (List.mem_of_getElem? (i := 120) rfl)) rfl (by decide +kernel) ⟨(Nat.le_of_ble_eq_true rfl), (Nat.le_of_ble_eq_true rfl)⟩) hE hO hP hD hS hA rfl hl.1 rfl (Nat.le_of_ble_eq_true rfl) dL_law_12 ⟨(Nat.le_of_ble_eq_true rfl), (Nat.le_of_ble_eq_true rfl)⟩ (fun ub H locs hP hD hS => ?_)
  refine lv_astore_n (lv' := [(2, .ref q2), (1, .ref q1), (0, .ref b)]) hx hb dL_law_15 rfl hl (by decide) rfl (fun ls hl => ?_)
  refine lv_iconst (v := 1) hx hb dL_law_16 (by decide) ?_
  refine newL hx hb (hts _ (List.mem_of_getElem? (i := 6) rfl)) hK hP hD hS hA 1 (by decide) (by decide) (Nat.le_of_ble_eq_true rfl) (Nat.le_of_ble_eq_true rfl) (Nat.le_of_ble_eq_true rfl) dL_law_17 (fun q3 H hP hD hS => ?_)
  refine lv_astore_n (lv' := [(3, .ref q3), (2, .ref q2), (1, .ref q1), (0, .ref b)]) hx hb dL_law_19 rfl hl (by decide) rfl (fun ls hl => ?_)
  refine lv_iconst (v := 0) hx hb dL_law_20 (by decide) ?_
  refine lv_istore (lv' := [(4, .int 0), (3, .ref q3), (2, .ref q2), (1, .ref q1), (0, .ref b)]) hx hb dL_law_21 hl (by decide) rfl (fun ls hl => ?_)
  have hC9 := perm_C (mxW cI cL cM (fun i => if i = 0 then q1 else ua i) mx0) (rfW cI (fun i => if i = 0 then q2 else ub i) (r_clr u00)) (q3, .inl (cL, 1, .inr (.inl (fun _ => 0))))
  have hP : va_P D vwCl (lawW cI cL cM (fun i => if i = 0 then q1 else ua i) q3 (fun i => if i = 0 then q2 else ub i) mx0 (fun _ => 0) (r_clr u00)) H := sub_P hP hC9
  have hD : va_D (fun q : Nat => s.heap.size ≤ q) (lawW cI cL cM (fun i => if i = 0 then q1 else ua i) q3 (fun i => if i = 0 then q2 else ub i) mx0 (fun _ => 0) (r_clr u00)) := hD.sub _ (show va_nd (segI 0 35 ++ (48 :: segI 35 13)) = true from rfl) hC9
  refine W.widen (k := 49 + 3 * 0) (n := 21481 + 18 * 0) (Nat.le_of_ble_eq_true rfl) (Nat.le_of_ble_eq_true rfl) ?_
  refine W.base ?_
  exact lw_loop hr hlocks ⟨⟨hnt, hx, hb, hml, hown⟩, hts, hEX, hN, hX, hbl, hbA, hA, hL⟩ (L + 5) 0 (by omega) (by omega) s.drawn hd0 mx0 (fun _ => 0) (r_clr u00) H _ ls Rel_0 hP hD hS (lv_sub hl [0, 1, 2, 3, 4] rfl)
