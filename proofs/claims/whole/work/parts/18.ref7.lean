/-! ===== the reference: leader, digest ===== -/
def rl1 (w : Nat → Int32) (k : Nat) (x : Int32) : Int32 := if x < (0 : Int32) then nI k else if w k < w x.toNatClampNeg then x else nI k
def rld (w : Nat → Int32) : Nat → Int32 → Int32
  | 0, x => x
  | k + 1, x => rld w k (rl1 w k x)
theorem rld_s {w : Nat → Int32} {k : Nat} {x y : Int32} (hk : 1 ≤ k) (h : rl1 w (k - 1) x = y) : rld w (k - 1) y = rld w k x := by
  obtain ⟨j, rfl⟩ : ∃ j, k = j + 1 := ⟨k - 1, by omega⟩
  rw [← h]
  rfl
def dgw (u : RS) (k : Nat) : Nat → Int64 → Int64
  | 0, d => d
  | q + 1, d => dgw u k q d * 31 + (r_we u (8 * k + q)).toInt64
def dgm (u : RS) (d : Int64) : Nat → Int64
  | 0 => d
  | k + 1 => dgw u k 8 (((dgm u d k * 31 + (r_od u k).toInt64) * 31 + (r_ra u k).toInt64) * 31 + (r_lo u k).toInt64) * 31 + (r_cl u k).toInt64
def dgb (f : Nat → Int32) (d : Int64) : Nat → Int64
  | 0 => d
  | k + 1 => dgb f d k * 31 + (f k).toInt64
def r_dg1 (u : RS) : Int64 := dgm u (3193 + (nI (r_n u)).toInt64) (r_n u) * 31 + (nI (r_sz u)).toInt64
def r_dg2 (u : RS) : Int64 := ((dgb (r_tx u) (r_dg1 u) (r_sz u) * 31 + (nI (r_nd u)).toInt64) * 31 + (r_ob u).toInt64) * 31 + r_er u
def r_dg3 (u : RS) : Int64 := dgb (r_cd u) (r_dg2 u * 31 + (nI (r_cs u)).toInt64) (r_cs u) * 31 + (nI (r_mk u)).toInt64
def r_dig (u : RS) : Int64 := dgb (r_ou u) (r_dg3 u) (r_mk u)

set_option maxHeartbeats 4000000 in
set_option maxRecDepth 100000 in
theorem c_X5_leader (l : Launch) (D : va_G) (cI cL cM : ClassId) (A : Nat → Prop) (b : Nat → Nat) (u : RS) (hs : RSf u) : mI l yX5_leader wsX5_leader ({ frames := 1, cells := 0, slots := 0, locals := 21 }) D (tB cI cL cM) A [.ref (b 0)] (rfW cI b u) (rld (r_w u) (r_n u) (-1)) (rfW cI b (rs_th u 0)) := by
  refine Met.ofW (cc := cX5_leader) (maxL := 3) (ret := (some .int)) (by decide) rfl ?_
  intro p e s m args below meth c s₁ B hml hv
  obtain ⟨rfl, hP, hE, hD, hA⟩ := hv
  have hK := hE.1
  have hx := B.exec
  have hb := B.bytes
  have hr := B.returns
  have hts := atoms_spec (ws := wsX5_leader) B.pre
  have hown : s.vm.findClass RX5 = some m.cls := findClass_of_methodNamed B.named
  have hlocks := B.notSynchronized
  have hS : va_S A s.heap s.heap [] := va_S.rf
  have hl := lv_entry ([.ref (b 0)]) (n := 3) (Nat.le_of_ble_eq_true rfl)
  rw [lg_entry_eq]
  generalize (lg_sl ([.ref (b 0)]) ++ List.replicate (3 - (lg_sl ([.ref (b 0)])).length) Slot.unset).toArray = ls at hl ⊢
  have hl : lv_has ls 3 [(0, .ref (b 0))] := hl
  obtain ⟨hn6, hnd, hnd0, hsj⟩ := id hs
  have hp8 := phN_lt (r_nd u)
  refine lv_aload_n hx hb dX5_leader_0 rfl (lv_at hl 0 rfl) ?_
  refine lv_iconst (v := 0) hx hb dX5_leader_1 (by decide) ?_
  refine va_put (D := D) (ci := 5) (v := .int 0) (ty := .int) (C := RX5) (T := TX5) (N := 22) hx hb hts (fun _ h => List.mem_cons_of_mem _ (List.mem_append_right _ h)) tyX5 tyX5_ok nmX5 hown hK hP hD hS 0 rfl rfl 0 (by decide) (hts _ (List.mem_of_getElem? (i := 1) rfl)) (fun _ h9 => h9) rfl (by decide +kernel) rfl rfl (Nat.le_of_ble_eq_true rfl) dX5_leader_2 (fun H locs hP hD hS => ?_)
  rw [rfW_th] at hP hD
  have hP : va_P D vwCl (rfW cI b (rs_th u 0)) H := hP
  have hD : va_D A (rfW cI b (rs_th u 0)) := hD
  refine lv_iconst (v := (-1)) hx hb dX5_leader_5 (by decide) ?_
  refine lv_istore_n (lv' := [(1, .int (-1)), (0, .ref (b 0))]) hx hb dX5_leader_6 rfl hl (by decide) rfl (fun ls hl => ?_)
  refine lv_aload_n hx hb dX5_leader_7 rfl (lv_at hl 1 rfl) ?_
  refine va_get (D := D) (ci := 5) (v := .int (nI (r_n u))) (C := RX5) (T := TX5) (N := 22) hx hb hts (fun _ h => List.mem_cons_of_mem _ (List.mem_append_right _ h)) hown hK hP 0 rfl rfl 1 (by decide) (hts _ (List.mem_of_getElem? (i := 2) rfl)) (fun _ h9 => h9) rfl dX5_leader_8 ?_
  refine lv_iconst (v := 1) hx hb dX5_leader_11 (by decide) ?_
  refine lv_isub hx hb dX5_leader_12 ?_
  refine lv_istore_n (lv' := [(2, .int ((nI (r_n u)) - 1)), (1, .int (-1)), (0, .ref (b 0))]) hx hb dX5_leader_13 rfl hl (by decide) rfl (fun ls hl => ?_)
  have lpl : ∀ (n9 : Nat) (k9 : Nat) (bst : Int32) (hk9 : k9 ≤ r_n u) (hbb : bst < (0 : Int32) ∨ ∃ bi, bi < r_n u ∧ bst = nI bi) (hv : rld (r_w u) k9 bst = rld (r_w u) (r_n u) (-1)), k9 < n9 → ∀ (H : Heap) (locs : List Loc), va_P D vwCl (rfW cI b (rs_th u 0)) H → va_D A (rfW cI b (rs_th u 0)) → va_S A s.heap H locs → ∀ (ls : Array Slot), lv_has ls 3 [(2, .int (nI k9 - 1)), (1, .int bst), (0, .ref (b 0))] → W p l e (headSpec wsX5_leader ({ frames := 1, cells := 0, slots := 0, locals := 21 })).room s m (([.ref (b 0)] : List Value).toArray) below meth c H locs 0 0 (MQ below (va_Qi (fun x (_ : Unit) => x = (rld (r_w u) (r_n u) (-1))) (fun _ t => hq D A (rfW cI b (rs_th u 0)) t) A) (([.ref (b 0)] : List Value).toArray) s 0 0 A) (F0 m 14 ls []) := by
    intro n9
    induction n9 with
    | zero => intro k9 bst hk9 hbb hv hm9; exact absurd hm9 (Nat.not_lt_zero _)
    | succ n9 ih_lpl =>
      intro k9 bst hk9 hbb hv hm9 H locs hP hD hS ls hl
      refine lv_iload_n hx hb dX5_leader_14 rfl (lv_at hl 0 rfl) ?_
      refine lv_if_lt (tgt := 61) hx hb dX5_leader_15 (by decide) (fun ct => ?_) (fun ct => ?_)
      · replace ct : (nI k9 - 1) < (0 : Int32) := ct
        have h0 := m1neg (by omega) ct
        refine lv_iload_n hx hb dX5_leader_61 rfl (lv_at hl 1 rfl) ?_
        exact W.iret (v := bst) hx hb hr (fun t ht hW => ⟨⟨bst, (), rfl, by (rw [h0] at hv; exact hv), by rw [ht]; exact hP, hD⟩, hS.F ht⟩) hS.2.2 dX5_leader_62
      · replace ct : ¬ (nI k9 - 1) < (0 : Int32) := ct
        have hk1 := m1pos (by omega) ct
        refine lv_iload_n hx hb dX5_leader_18 rfl (lv_at hl 1 rfl) ?_
        refine lv_if_lt (tgt := 53) hx hb dX5_leader_19 (by decide) (fun cb => ?_) (fun cb => ?_)
        · replace cb : bst < (0 : Int32) := cb
          refine lv_iload_n hx hb dX5_leader_53 rfl (lv_at hl 0 rfl) ?_
          refine topI (y := nI (k9 - 1)) (m1eq hk1) ?_
          refine lv_istore_n (lv' := [(1, .int (nI (k9 - 1))), (2, .int (nI k9 - 1)), (0, .ref (b 0))]) hx hb dX5_leader_54 rfl hl (by decide) rfl (fun ls hl => ?_)
          refine lv_iinc (v := nI (k9 - 1) - 1) (lv' := [(2, .int (nI (k9 - 1) - 1)), (1, .int (nI (k9 - 1))), (0, .ref (b 0))]) hx hb dX5_leader_55 hl (k := 1) rfl (m1dec hk1) (by decide) rfl (fun ls hl => ?_)
          refine lv_goto (tgt := 14) hx hb dX5_leader_58 (by decide) ?_
          exact ih_lpl (k9 - 1) (nI (k9 - 1)) (by omega) (Or.inr ⟨k9 - 1, by omega, rfl⟩) ((rld_s hk1 (if_pos cb)).trans hv) (by omega) _ _ hP hD hS ls (lv_sub hl [0, 1, 2] rfl)
        · replace cb : ¬ bst < (0 : Int32) := cb
          obtain ⟨bi, hbi, hbe⟩ : ∃ bi, bi < r_n u ∧ bst = nI bi := hbb.resolve_left cb
          have hcb : bst.toNatClampNeg = bi := clN hbe (show bi < 6 by omega) (Nat.le_of_ble_eq_true rfl)
          refine lv_aload_n hx hb dX5_leader_22 rfl (lv_at hl 2 rfl) ?_
          refine va_get (D := D) (ci := 5) (v := .ref (b 8)) (C := RX5) (T := TX5) (N := 22) hx hb hts (fun _ h => List.mem_cons_of_mem _ (List.mem_append_right _ h)) hown hK hP 0 rfl rfl 10 (by decide) (hts _ (List.mem_of_getElem? (i := 3) rfl)) (fun _ h9 => h9) rfl dX5_leader_23 ?_
          refine lv_bipush (v := 8) hx hb dX5_leader_26 (by decide) ?_
          refine lv_iload_n hx hb dX5_leader_28 rfl (lv_at hl 0 rfl) ?_
          refine topI (y := nI (k9 - 1)) (m1eq hk1) ?_
          refine lv_imul hx hb dX5_leader_29 ?_
          refine lv_aload_n hx hb dX5_leader_30 rfl (lv_at hl 2 rfl) ?_
          refine kIa (rVa (As := []) (rest := [.int (8 * (nI (k9 - 1))), .ref (b 8)]) ⟨hx, hb, hml, hown, hts⟩ (c_X5_phase l D cI cL cM _ b (rs_th u 0)  hnd) (cwV 0 hts gX5_leader_X5_phase rfl rfl rfl (by decide +kernel) ⟨(Nat.le_of_ble_eq_true rfl), (Nat.le_of_ble_eq_true rfl)⟩) hE hP hD hS hA 0 rfl rfl rfl hl.1 rfl (Nat.le_of_ble_eq_true rfl) dX5_leader_31 ⟨(Nat.le_of_ble_eq_true rfl), (Nat.le_of_ble_eq_true rfl)⟩) hS (fun H locs hP hD hS => ?_)
          have hP : va_P D vwCl (rfW cI b (rs_th u 0)) H := hP
          have hD : va_D A (rfW cI b (rs_th u 0)) := hD
          refine lv_iadd hx hb dX5_leader_34 ?_
          refine topI (y := nI (8 * (k9 - 1) + phN (r_nd u))) (wixN _ _) ?_
          refine ildN hx hb hK hP 8 0 rfl rfl (8 * (k9 - 1) + phN (r_nd u)) (by omega) ((Nat.le_of_ble_eq_true rfl)) dX5_leader_35 ?_
          refine topI (y := r_w u (k9 - 1)) (rfl) ?_
          refine lv_aload_n hx hb dX5_leader_36 rfl (lv_at hl 2 rfl) ?_
          refine va_get (D := D) (ci := 5) (v := .ref (b 8)) (C := RX5) (T := TX5) (N := 22) hx hb hts (fun _ h => List.mem_cons_of_mem _ (List.mem_append_right _ h)) hown hK hP 0 rfl rfl 10 (by decide) (hts _ (List.mem_of_getElem? (i := 3) rfl)) (fun _ h9 => h9) rfl dX5_leader_37 ?_
          refine lv_bipush (v := 8) hx hb dX5_leader_40 (by decide) ?_
          refine lv_iload_n hx hb dX5_leader_42 rfl (lv_at hl 1 rfl) ?_
          refine topI (y := nI bi) (hbe) ?_
          refine lv_imul hx hb dX5_leader_43 ?_
          refine lv_aload_n hx hb dX5_leader_44 rfl (lv_at hl 2 rfl) ?_
          refine kIa (rVa (As := []) (rest := [.int (8 * (nI bi)), .ref (b 8), .int (r_w u (k9 - 1))]) ⟨hx, hb, hml, hown, hts⟩ (c_X5_phase l D cI cL cM _ b (rs_th u 0)  hnd) (cwV 0 hts gX5_leader_X5_phase rfl rfl rfl (by decide +kernel) ⟨(Nat.le_of_ble_eq_true rfl), (Nat.le_of_ble_eq_true rfl)⟩) hE hP hD hS hA 0 rfl rfl rfl hl.1 rfl (Nat.le_of_ble_eq_true rfl) dX5_leader_45 ⟨(Nat.le_of_ble_eq_true rfl), (Nat.le_of_ble_eq_true rfl)⟩) hS (fun H locs hP hD hS => ?_)
          have hP : va_P D vwCl (rfW cI b (rs_th u 0)) H := hP
          have hD : va_D A (rfW cI b (rs_th u 0)) := hD
          refine lv_iadd hx hb dX5_leader_48 ?_
          refine topI (y := nI (8 * bi + phN (r_nd u))) (wixN _ _) ?_
          refine ildN hx hb hK hP 8 0 rfl rfl (8 * bi + phN (r_nd u)) (by omega) ((Nat.le_of_ble_eq_true rfl)) dX5_leader_49 ?_
          refine topI (y := r_w u bi) (rfl) ?_
          refine lv_icmp_lt (tgt := 55) hx hb dX5_leader_50 (by decide) (fun cw => ?_) (fun cw => ?_)
          · replace cw : (r_w u (k9 - 1)) < (r_w u bi) := cw
            refine lv_iinc (v := nI (k9 - 1) - 1) (lv' := [(2, .int (nI (k9 - 1) - 1)), (1, .int bst), (0, .ref (b 0))]) hx hb dX5_leader_55 hl (k := 0) rfl (m1dec hk1) (by decide) rfl (fun ls hl => ?_)
            refine lv_goto (tgt := 14) hx hb dX5_leader_58 (by decide) ?_
            exact ih_lpl (k9 - 1) bst (by omega) (Or.inr ⟨bi, hbi, hbe⟩) ((rld_s hk1 (by unfold rl1; rw [if_neg cb, hcb, if_pos cw])).trans hv) (by omega) _ _ hP hD hS ls (lv_sub hl [0, 1, 2] rfl)
          · replace cw : ¬ (r_w u (k9 - 1)) < (r_w u bi) := cw
            refine lv_iload_n hx hb dX5_leader_53 rfl (lv_at hl 0 rfl) ?_
            refine topI (y := nI (k9 - 1)) (m1eq hk1) ?_
            refine lv_istore_n (lv' := [(1, .int (nI (k9 - 1))), (2, .int (nI k9 - 1)), (0, .ref (b 0))]) hx hb dX5_leader_54 rfl hl (by decide) rfl (fun ls hl => ?_)
            refine lv_iinc (v := nI (k9 - 1) - 1) (lv' := [(2, .int (nI (k9 - 1) - 1)), (1, .int (nI (k9 - 1))), (0, .ref (b 0))]) hx hb dX5_leader_55 hl (k := 1) rfl (m1dec hk1) (by decide) rfl (fun ls hl => ?_)
            refine lv_goto (tgt := 14) hx hb dX5_leader_58 (by decide) ?_
            exact ih_lpl (k9 - 1) (nI (k9 - 1)) (by omega) (Or.inr ⟨k9 - 1, by omega, rfl⟩) ((rld_s hk1 (by unfold rl1; rw [if_neg cb, hcb, if_neg cw])).trans hv) (by omega) _ _ hP hD hS ls (lv_sub hl [0, 1, 2] rfl)
  exact lpl _ (r_n u) (-1) (Nat.le_refl _) (Or.inl (by decide)) (rfl) (Nat.lt_succ_self _) _ _ hP hD hS ls (lv_sub hl [0, 1, 2] rfl)

set_option maxHeartbeats 4000000 in
set_option maxRecDepth 100000 in
theorem c_X5_digest (l : Launch) (D : va_G) (cI cL cM : ClassId) (A : Nat → Prop) (b : Nat → Nat) (u : RS) (hn6 : r_n u ≤ 6) (hz9 : r_sz u ≤ 80) (hc9 : r_cs u ≤ 3000) (hk8 : r_mk u ≤ 80) : mL l yX5_digest wsX5_digest ({ frames := 0, cells := 0, slots := 0, locals := 0 }) D (tB cI cL cM) A [.ref (b 0)] (rfW cI b u) (r_dig u) (rfW cI b (rs_th u 0)) := by
  refine Met.ofW (cc := cX5_digest) (maxL := 5) (ret := (some .long)) (by decide) rfl ?_
  intro p e s m args below meth c s₁ B hml hv
  obtain ⟨rfl, hP, hE, hD, hA⟩ := hv
  have hK := hE.1
  have hx := B.exec
  have hb := B.bytes
  have hr := B.returns
  have hts := atoms_spec (ws := wsX5_digest) B.pre
  have hown : s.vm.findClass RX5 = some m.cls := findClass_of_methodNamed B.named
  have hlocks := B.notSynchronized
  have hS : va_S A s.heap s.heap [] := va_S.rf
  have hl := lv_entry ([.ref (b 0)]) (n := 5) (Nat.le_of_ble_eq_true rfl)
  rw [lg_entry_eq]
  generalize (lg_sl ([.ref (b 0)]) ++ List.replicate (5 - (lg_sl ([.ref (b 0)])).length) Slot.unset).toArray = ls at hl ⊢
  have hl : lv_has ls 5 [(0, .ref (b 0))] := hl
  refine lv_aload_n hx hb dX5_digest_0 rfl (lv_at hl 0 rfl) ?_
  refine lv_iconst (v := 0) hx hb dX5_digest_1 (by decide) ?_
  refine va_put (D := D) (ci := 5) (v := .int 0) (ty := .int) (C := RX5) (T := TX5) (N := 22) hx hb hts (fun _ h => List.mem_cons_of_mem _ (List.mem_append_right _ h)) tyX5 tyX5_ok nmX5 hown hK hP hD hS 0 rfl rfl 0 (by decide) (hts _ (List.mem_of_getElem? (i := 1) rfl)) (fun _ h9 => h9) rfl (by decide +kernel) rfl rfl (Nat.le_of_ble_eq_true rfl) dX5_digest_2 (fun H locs hP hD hS => ?_)
  rw [rfW_th] at hP hD
  have hP : va_P D vwCl (rfW cI b (rs_th u 0)) H := hP
  have hD : va_D A (rfW cI b (rs_th u 0)) := hD
  refine lv_ldc2 hx hb hown (hts _ (List.mem_of_getElem? (i := 2) rfl)) dX5_digest_5 ?_
  refine lv_aload_n hx hb dX5_digest_8 rfl (lv_at hl 0 rfl) ?_
  refine va_get (D := D) (ci := 5) (v := .int (nI (r_n u))) (C := RX5) (T := TX5) (N := 22) hx hb hts (fun _ h => List.mem_cons_of_mem _ (List.mem_append_right _ h)) hown hK hP 0 rfl rfl 1 (by decide) (hts _ (List.mem_of_getElem? (i := 3) rfl)) (fun _ h9 => h9) rfl dX5_digest_9 ?_
  refine lv_i2l hx hb dX5_digest_12 rfl ?_
  refine lv_ladd hx hb dX5_digest_13 ?_
  refine lv_topl (fun d0 hd0 => ?_)
  refine lv_lstore_n (lv' := [(1, .long d0), (0, .ref (b 0))]) hx hb dX5_digest_14 rfl hl (by decide) rfl (fun ls hl => ?_)
  refine lv_iconst (v := 0) hx hb dX5_digest_15 (by decide) ?_
  refine lv_istore_n (lv' := [(3, .int 0), (1, .long d0), (0, .ref (b 0))]) hx hb dX5_digest_16 rfl hl (by decide) rfl (fun ls hl => ?_)
  have lpm : ∀ (n9 : Nat) (k9 : Nat) (hk9 : k9 ≤ r_n u), r_n u - k9 < n9 → ∀ (H : Heap) (locs : List Loc), va_P D vwCl (rfW cI b (rs_th u 0)) H → va_D A (rfW cI b (rs_th u 0)) → va_S A s.heap H locs → ∀ (ls : Array Slot), lv_has ls 5 [(3, .int (nI k9)), (1, .long (dgm u d0 k9)), (0, .ref (b 0))] → W p l e (headSpec wsX5_digest ({ frames := 0, cells := 0, slots := 0, locals := 0 })).room s m (([.ref (b 0)] : List Value).toArray) below meth c H locs 0 0 (MQ below (va_Ql (fun x (_ : Unit) => x = (r_dig u)) (fun _ t => hq D A (rfW cI b (rs_th u 0)) t) A) (([.ref (b 0)] : List Value).toArray) s 0 0 A) (F0 m 17 ls []) := by
    intro n9
    induction n9 with
    | zero => intro k9 hk9 hm9; exact absurd hm9 (Nat.not_lt_zero _)
    | succ n9 ih_lpm =>
      intro k9 hk9 hm9 H locs hP hD hS ls hl
      refine lv_iload_n hx hb dX5_digest_17 rfl (lv_at hl 0 rfl) ?_
      refine lv_aload_n hx hb dX5_digest_18 rfl (lv_at hl 2 rfl) ?_
      refine va_get (D := D) (ci := 5) (v := .int (nI (r_n u))) (C := RX5) (T := TX5) (N := 22) hx hb hts (fun _ h => List.mem_cons_of_mem _ (List.mem_append_right _ h)) hown hK hP 0 rfl rfl 1 (by decide) (hts _ (List.mem_of_getElem? (i := 3) rfl)) (fun _ h9 => h9) rfl dX5_digest_19 ?_
      refine lv_icmp_ge (tgt := 119) hx hb dX5_digest_22 (by decide) (fun cj => ?_) (fun cj => ?_)
      · replace cj : (nI (r_n u)) ≤ (nI k9) := cj
        have hjn : k9 = r_n u := by have h8 := ge_N (by omega) (by omega) cj; omega
        rw [hjn] at hl
        refine lv_lload_n hx hb dX5_digest_119 rfl (lv_at hl 1 rfl) ?_
        refine lv_ldc2 hx hb hown (hts _ (List.mem_of_getElem? (i := 4) rfl)) dX5_digest_120 ?_
        refine lv_lmul hx hb dX5_digest_123 ?_
        refine lv_aload_n hx hb dX5_digest_124 rfl (lv_at hl 2 rfl) ?_
        refine va_get (D := D) (ci := 5) (v := .int (nI (r_sz u))) (C := RX5) (T := TX5) (N := 22) hx hb hts (fun _ h => List.mem_cons_of_mem _ (List.mem_append_right _ h)) hown hK hP 0 rfl rfl 5 (by decide) (hts _ (List.mem_of_getElem? (i := 10) rfl)) (fun _ h9 => h9) rfl dX5_digest_125 ?_
        refine lv_i2l hx hb dX5_digest_128 rfl ?_
        refine lv_ladd hx hb dX5_digest_129 ?_
        refine lv_topl (fun d4 hd4 => ?_)
        refine lv_lstore_n (lv' := [(1, .long d4), (3, .int (nI (r_n u))), (0, .ref (b 0))]) hx hb dX5_digest_130 rfl hl (by decide) rfl (fun ls hl => ?_)
        refine lv_iconst (v := 0) hx hb dX5_digest_131 (by decide) ?_
        refine lv_istore_n (lv' := [(3, .int 0), (1, .long d4), (0, .ref (b 0))]) hx hb dX5_digest_132 rfl hl (by decide) rfl (fun ls hl => ?_)
        have lpt : ∀ (n9 : Nat) (k9 : Nat) (hk9 : k9 ≤ r_sz u), r_sz u - k9 < n9 → ∀ (H : Heap) (locs : List Loc), va_P D vwCl (rfW cI b (rs_th u 0)) H → va_D A (rfW cI b (rs_th u 0)) → va_S A s.heap H locs → ∀ (ls : Array Slot), lv_has ls 5 [(3, .int (nI k9)), (1, .long (dgb (r_tx u) d4 k9)), (0, .ref (b 0))] → W p l e (headSpec wsX5_digest ({ frames := 0, cells := 0, slots := 0, locals := 0 })).room s m (([.ref (b 0)] : List Value).toArray) below meth c H locs 0 0 (MQ below (va_Ql (fun x (_ : Unit) => x = (r_dig u)) (fun _ t => hq D A (rfW cI b (rs_th u 0)) t) A) (([.ref (b 0)] : List Value).toArray) s 0 0 A) (F0 m 133 ls []) := by
          intro n9
          induction n9 with
          | zero => intro k9 hk9 hm9; exact absurd hm9 (Nat.not_lt_zero _)
          | succ n9 ih_lpt =>
            intro k9 hk9 hm9 H locs hP hD hS ls hl
            refine lv_iload_n hx hb dX5_digest_133 rfl (lv_at hl 0 rfl) ?_
            refine lv_aload_n hx hb dX5_digest_134 rfl (lv_at hl 2 rfl) ?_
            refine va_get (D := D) (ci := 5) (v := .int (nI (r_sz u))) (C := RX5) (T := TX5) (N := 22) hx hb hts (fun _ h => List.mem_cons_of_mem _ (List.mem_append_right _ h)) hown hK hP 0 rfl rfl 5 (by decide) (hts _ (List.mem_of_getElem? (i := 10) rfl)) (fun _ h9 => h9) rfl dX5_digest_135 ?_
            refine lv_icmp_ge (tgt := 161) hx hb dX5_digest_138 (by decide) (fun cj => ?_) (fun cj => ?_)
            · replace cj : (nI (r_sz u)) ≤ (nI k9) := cj
              have hjn : k9 = r_sz u := Nat.le_antisymm hk9 (ge_N (Nat.lt_of_le_of_lt hz9 (Nat.le_of_ble_eq_true rfl)) (Nat.lt_of_le_of_lt (Nat.le_trans hk9 hz9) (Nat.le_of_ble_eq_true rfl)) cj)
              rw [hjn] at hl
              refine lv_lload_n hx hb dX5_digest_161 rfl (lv_at hl 1 rfl) ?_
              refine lv_ldc2 hx hb hown (hts _ (List.mem_of_getElem? (i := 4) rfl)) dX5_digest_162 ?_
              refine lv_lmul hx hb dX5_digest_165 ?_
              refine lv_aload_n hx hb dX5_digest_166 rfl (lv_at hl 2 rfl) ?_
              refine va_get (D := D) (ci := 5) (v := .int (nI (r_nd u))) (C := RX5) (T := TX5) (N := 22) hx hb hts (fun _ h => List.mem_cons_of_mem _ (List.mem_append_right _ h)) hown hK hP 0 rfl rfl 13 (by decide) (hts _ (List.mem_of_getElem? (i := 12) rfl)) (fun _ h9 => h9) rfl dX5_digest_167 ?_
              refine lv_i2l hx hb dX5_digest_170 rfl ?_
              refine lv_ladd hx hb dX5_digest_171 ?_
              refine lv_ldc2 hx hb hown (hts _ (List.mem_of_getElem? (i := 4) rfl)) dX5_digest_172 ?_
              refine lv_lmul hx hb dX5_digest_175 ?_
              refine lv_aload_n hx hb dX5_digest_176 rfl (lv_at hl 2 rfl) ?_
              refine va_get (D := D) (ci := 5) (v := .int (r_ob u)) (C := RX5) (T := TX5) (N := 22) hx hb hts (fun _ h => List.mem_cons_of_mem _ (List.mem_append_right _ h)) hown hK hP 0 rfl rfl 14 (by decide) (hts _ (List.mem_of_getElem? (i := 13) rfl)) (fun _ h9 => h9) rfl dX5_digest_177 ?_
              refine lv_i2l hx hb dX5_digest_180 rfl ?_
              refine lv_ladd hx hb dX5_digest_181 ?_
              refine lv_ldc2 hx hb hown (hts _ (List.mem_of_getElem? (i := 4) rfl)) dX5_digest_182 ?_
              refine lv_lmul hx hb dX5_digest_185 ?_
              refine lv_aload_n hx hb dX5_digest_186 rfl (lv_at hl 2 rfl) ?_
              refine va_get (D := D) (ci := 5) (v := .long (r_er u)) (C := RX5) (T := TX5) (N := 22) hx hb hts (fun _ h => List.mem_cons_of_mem _ (List.mem_append_right _ h)) hown hK hP 0 rfl rfl 15 (by decide) (hts _ (List.mem_of_getElem? (i := 14) rfl)) (fun _ h9 => h9) rfl dX5_digest_187 ?_
              refine lv_ladd hx hb dX5_digest_190 ?_
              refine lv_topl (fun d5 hd5 => ?_)
              refine lv_lstore_n (lv' := [(1, .long d5), (3, .int (nI (r_sz u))), (0, .ref (b 0))]) hx hb dX5_digest_191 rfl hl (by decide) rfl (fun ls hl => ?_)
              refine lv_lload_n hx hb dX5_digest_192 rfl (lv_at hl 0 rfl) ?_
              refine lv_ldc2 hx hb hown (hts _ (List.mem_of_getElem? (i := 4) rfl)) dX5_digest_193 ?_
              refine lv_lmul hx hb dX5_digest_196 ?_
              refine lv_aload_n hx hb dX5_digest_197 rfl (lv_at hl 2 rfl) ?_
              refine va_get (D := D) (ci := 5) (v := .int (nI (r_cs u))) (C := RX5) (T := TX5) (N := 22) hx hb hts (fun _ h => List.mem_cons_of_mem _ (List.mem_append_right _ h)) hown hK hP 0 rfl rfl 16 (by decide) (hts _ (List.mem_of_getElem? (i := 15) rfl)) (fun _ h9 => h9) rfl dX5_digest_198 ?_
              refine lv_i2l hx hb dX5_digest_201 rfl ?_
              refine lv_ladd hx hb dX5_digest_202 ?_
              refine lv_topl (fun d6 hd6 => ?_)
              refine lv_lstore_n (lv' := [(1, .long d6), (3, .int (nI (r_sz u))), (0, .ref (b 0))]) hx hb dX5_digest_203 rfl hl (by decide) rfl (fun ls hl => ?_)
              refine lv_iconst (v := 0) hx hb dX5_digest_204 (by decide) ?_
              refine lv_istore_n (lv' := [(3, .int 0), (1, .long d6), (0, .ref (b 0))]) hx hb dX5_digest_205 rfl hl (by decide) rfl (fun ls hl => ?_)
              have lpc : ∀ (n9 : Nat) (k9 : Nat) (hk9 : k9 ≤ r_cs u), r_cs u - k9 < n9 → ∀ (H : Heap) (locs : List Loc), va_P D vwCl (rfW cI b (rs_th u 0)) H → va_D A (rfW cI b (rs_th u 0)) → va_S A s.heap H locs → ∀ (ls : Array Slot), lv_has ls 5 [(3, .int (nI k9)), (1, .long (dgb (r_cd u) d6 k9)), (0, .ref (b 0))] → W p l e (headSpec wsX5_digest ({ frames := 0, cells := 0, slots := 0, locals := 0 })).room s m (([.ref (b 0)] : List Value).toArray) below meth c H locs 0 0 (MQ below (va_Ql (fun x (_ : Unit) => x = (r_dig u)) (fun _ t => hq D A (rfW cI b (rs_th u 0)) t) A) (([.ref (b 0)] : List Value).toArray) s 0 0 A) (F0 m 206 ls []) := by
                intro n9
                induction n9 with
                | zero => intro k9 hk9 hm9; exact absurd hm9 (Nat.not_lt_zero _)
                | succ n9 ih_lpc =>
                  intro k9 hk9 hm9 H locs hP hD hS ls hl
                  refine lv_iload_n hx hb dX5_digest_206 rfl (lv_at hl 0 rfl) ?_
                  refine lv_aload_n hx hb dX5_digest_207 rfl (lv_at hl 2 rfl) ?_
                  refine va_get (D := D) (ci := 5) (v := .int (nI (r_cs u))) (C := RX5) (T := TX5) (N := 22) hx hb hts (fun _ h => List.mem_cons_of_mem _ (List.mem_append_right _ h)) hown hK hP 0 rfl rfl 16 (by decide) (hts _ (List.mem_of_getElem? (i := 15) rfl)) (fun _ h9 => h9) rfl dX5_digest_208 ?_
                  refine lv_icmp_ge (tgt := 234) hx hb dX5_digest_211 (by decide) (fun cj => ?_) (fun cj => ?_)
                  · replace cj : (nI (r_cs u)) ≤ (nI k9) := cj
                    have hjn : k9 = r_cs u := Nat.le_antisymm hk9 (ge_N (Nat.lt_of_le_of_lt hc9 (Nat.le_of_ble_eq_true rfl)) (Nat.lt_of_le_of_lt (Nat.le_trans hk9 hc9) (Nat.le_of_ble_eq_true rfl)) cj)
                    rw [hjn] at hl
                    refine lv_lload_n hx hb dX5_digest_234 rfl (lv_at hl 1 rfl) ?_
                    refine lv_ldc2 hx hb hown (hts _ (List.mem_of_getElem? (i := 4) rfl)) dX5_digest_235 ?_
                    refine lv_lmul hx hb dX5_digest_238 ?_
                    refine lv_aload_n hx hb dX5_digest_239 rfl (lv_at hl 2 rfl) ?_
                    refine va_get (D := D) (ci := 5) (v := .int (nI (r_mk u))) (C := RX5) (T := TX5) (N := 22) hx hb hts (fun _ h => List.mem_cons_of_mem _ (List.mem_append_right _ h)) hown hK hP 0 rfl rfl 18 (by decide) (hts _ (List.mem_of_getElem? (i := 17) rfl)) (fun _ h9 => h9) rfl dX5_digest_240 ?_
                    refine lv_i2l hx hb dX5_digest_243 rfl ?_
                    refine lv_ladd hx hb dX5_digest_244 ?_
                    refine lv_topl (fun d7 hd7 => ?_)
                    refine lv_lstore_n (lv' := [(1, .long d7), (3, .int (nI (r_cs u))), (0, .ref (b 0))]) hx hb dX5_digest_245 rfl hl (by decide) rfl (fun ls hl => ?_)
                    refine lv_iconst (v := 0) hx hb dX5_digest_246 (by decide) ?_
                    refine lv_istore_n (lv' := [(3, .int 0), (1, .long d7), (0, .ref (b 0))]) hx hb dX5_digest_247 rfl hl (by decide) rfl (fun ls hl => ?_)
                    have lpo : ∀ (n9 : Nat) (k9 : Nat) (hk9 : k9 ≤ r_mk u), r_mk u - k9 < n9 → ∀ (H : Heap) (locs : List Loc), va_P D vwCl (rfW cI b (rs_th u 0)) H → va_D A (rfW cI b (rs_th u 0)) → va_S A s.heap H locs → ∀ (ls : Array Slot), lv_has ls 5 [(3, .int (nI k9)), (1, .long (dgb (r_ou u) d7 k9)), (0, .ref (b 0))] → W p l e (headSpec wsX5_digest ({ frames := 0, cells := 0, slots := 0, locals := 0 })).room s m (([.ref (b 0)] : List Value).toArray) below meth c H locs 0 0 (MQ below (va_Ql (fun x (_ : Unit) => x = (r_dig u)) (fun _ t => hq D A (rfW cI b (rs_th u 0)) t) A) (([.ref (b 0)] : List Value).toArray) s 0 0 A) (F0 m 248 ls []) := by
                      intro n9
                      induction n9 with
                      | zero => intro k9 hk9 hm9; exact absurd hm9 (Nat.not_lt_zero _)
                      | succ n9 ih_lpo =>
                        intro k9 hk9 hm9 H locs hP hD hS ls hl
                        refine lv_iload_n hx hb dX5_digest_248 rfl (lv_at hl 0 rfl) ?_
                        refine lv_aload_n hx hb dX5_digest_249 rfl (lv_at hl 2 rfl) ?_
                        refine va_get (D := D) (ci := 5) (v := .int (nI (r_mk u))) (C := RX5) (T := TX5) (N := 22) hx hb hts (fun _ h => List.mem_cons_of_mem _ (List.mem_append_right _ h)) hown hK hP 0 rfl rfl 18 (by decide) (hts _ (List.mem_of_getElem? (i := 17) rfl)) (fun _ h9 => h9) rfl dX5_digest_250 ?_
                        refine lv_icmp_ge (tgt := 276) hx hb dX5_digest_253 (by decide) (fun cj => ?_) (fun cj => ?_)
                        · replace cj : (nI (r_mk u)) ≤ (nI k9) := cj
                          have hjn : k9 = r_mk u := Nat.le_antisymm hk9 (ge_N (Nat.lt_of_le_of_lt hk8 (Nat.le_of_ble_eq_true rfl)) (Nat.lt_of_le_of_lt (Nat.le_trans hk9 hk8) (Nat.le_of_ble_eq_true rfl)) cj)
                          rw [hjn] at hl
                          refine lv_lload_n hx hb dX5_digest_276 rfl (lv_at hl 1 rfl) ?_
                          subst hd7
                          subst hd6
                          subst hd5
                          subst hd4
                          subst hd0
                          exact W.lret (v := (dgb (r_ou u) (((dgb (r_cd u) (((((((((dgb (r_tx u) (((dgm u (3193 + ((nI (r_n u)).toInt64)) (r_n u)) * 31) + ((nI (r_sz u)).toInt64)) (r_sz u)) * 31) + ((nI (r_nd u)).toInt64)) * 31) + ((r_ob u).toInt64)) * 31) + (r_er u)) * 31) + ((nI (r_cs u)).toInt64)) (r_cs u)) * 31) + ((nI (r_mk u)).toInt64)) (r_mk u))) hx hb hr (fun t ht hW => ⟨⟨(dgb (r_ou u) (((dgb (r_cd u) (((((((((dgb (r_tx u) (((dgm u (3193 + ((nI (r_n u)).toInt64)) (r_n u)) * 31) + ((nI (r_sz u)).toInt64)) (r_sz u)) * 31) + ((nI (r_nd u)).toInt64)) * 31) + ((r_ob u).toInt64)) * 31) + (r_er u)) * 31) + ((nI (r_cs u)).toInt64)) (r_cs u)) * 31) + ((nI (r_mk u)).toInt64)) (r_mk u)), (), rfl, by rfl, by rw [ht]; exact hP, hD⟩, hS.F ht⟩) hS.2.2 dX5_digest_277
                        · replace cj : ¬ (nI (r_mk u)) ≤ (nI k9) := cj
                          have hjn : k9 < r_mk u := nge_N (Nat.lt_of_le_of_lt hk8 (Nat.le_of_ble_eq_true rfl)) (Nat.lt_of_le_of_lt (Nat.le_trans hk9 hk8) (Nat.le_of_ble_eq_true rfl)) cj
                          refine lv_lload_n hx hb dX5_digest_256 rfl (lv_at hl 1 rfl) ?_
                          refine lv_ldc2 hx hb hown (hts _ (List.mem_of_getElem? (i := 4) rfl)) dX5_digest_257 ?_
                          refine lv_lmul hx hb dX5_digest_260 ?_
                          refine lv_aload_n hx hb dX5_digest_261 rfl (lv_at hl 2 rfl) ?_
                          refine va_get (D := D) (ci := 5) (v := .ref (b 12)) (C := RX5) (T := TX5) (N := 22) hx hb hts (fun _ h => List.mem_cons_of_mem _ (List.mem_append_right _ h)) hown hK hP 0 rfl rfl 19 (by decide) (hts _ (List.mem_of_getElem? (i := 18) rfl)) (fun _ h9 => h9) rfl dX5_digest_262 ?_
                          refine lv_iload_n hx hb dX5_digest_265 rfl (lv_at hl 0 rfl) ?_
                          refine ildN hx hb hK hP 12 0 rfl rfl k9 (Nat.lt_of_lt_of_le hjn hk8) ((Nat.le_of_ble_eq_true rfl)) dX5_digest_266 ?_
                          refine lv_i2l hx hb dX5_digest_267 rfl ?_
                          refine lv_ladd hx hb dX5_digest_268 ?_
                          refine lv_lstore_n (lv' := [(1, .long (((dgb (r_ou u) d7 k9) * 31) + (((r_ou u) k9).toInt64))), (3, .int (nI k9)), (0, .ref (b 0))]) hx hb dX5_digest_269 rfl hl (by decide) rfl (fun ls hl => ?_)
                          refine lv_iinc (v := nI (k9 + 1)) (lv' := [(3, .int (nI (k9 + 1))), (1, .long (((dgb (r_ou u) d7 k9) * 31) + (((r_ou u) k9).toInt64))), (0, .ref (b 0))]) hx hb dX5_digest_270 hl (k := 1) rfl (nI_1 _) (by decide) rfl (fun ls hl => ?_)
                          refine lv_goto (tgt := 248) hx hb dX5_digest_273 (by decide) ?_
                          exact ih_lpo (k9 + 1) (hjn) (loopm hm9 hjn) _ _ hP hD hS ls (lv_sub hl [0, 1, 2] rfl)
                    exact lpo _ 0 (Nat.zero_le _) (Nat.lt_succ_self _) _ _ hP hD hS ls (lv_sub hl [0, 1, 2] rfl)
                  · replace cj : ¬ (nI (r_cs u)) ≤ (nI k9) := cj
                    have hjn : k9 < r_cs u := nge_N (Nat.lt_of_le_of_lt hc9 (Nat.le_of_ble_eq_true rfl)) (Nat.lt_of_le_of_lt (Nat.le_trans hk9 hc9) (Nat.le_of_ble_eq_true rfl)) cj
                    refine lv_lload_n hx hb dX5_digest_214 rfl (lv_at hl 1 rfl) ?_
                    refine lv_ldc2 hx hb hown (hts _ (List.mem_of_getElem? (i := 4) rfl)) dX5_digest_215 ?_
                    refine lv_lmul hx hb dX5_digest_218 ?_
                    refine lv_aload_n hx hb dX5_digest_219 rfl (lv_at hl 2 rfl) ?_
                    refine va_get (D := D) (ci := 5) (v := .ref (b 11)) (C := RX5) (T := TX5) (N := 22) hx hb hts (fun _ h => List.mem_cons_of_mem _ (List.mem_append_right _ h)) hown hK hP 0 rfl rfl 17 (by decide) (hts _ (List.mem_of_getElem? (i := 16) rfl)) (fun _ h9 => h9) rfl dX5_digest_220 ?_
                    refine lv_iload_n hx hb dX5_digest_223 rfl (lv_at hl 0 rfl) ?_
                    refine ildN hx hb hK hP 11 0 rfl rfl k9 (Nat.lt_of_lt_of_le hjn hc9) ((Nat.le_of_ble_eq_true rfl)) dX5_digest_224 ?_
                    refine lv_i2l hx hb dX5_digest_225 rfl ?_
                    refine lv_ladd hx hb dX5_digest_226 ?_
                    refine lv_lstore_n (lv' := [(1, .long (((dgb (r_cd u) d6 k9) * 31) + (((r_cd u) k9).toInt64))), (3, .int (nI k9)), (0, .ref (b 0))]) hx hb dX5_digest_227 rfl hl (by decide) rfl (fun ls hl => ?_)
                    refine lv_iinc (v := nI (k9 + 1)) (lv' := [(3, .int (nI (k9 + 1))), (1, .long (((dgb (r_cd u) d6 k9) * 31) + (((r_cd u) k9).toInt64))), (0, .ref (b 0))]) hx hb dX5_digest_228 hl (k := 1) rfl (nI_1 _) (by decide) rfl (fun ls hl => ?_)
                    refine lv_goto (tgt := 206) hx hb dX5_digest_231 (by decide) ?_
                    exact ih_lpc (k9 + 1) (hjn) (loopm hm9 hjn) _ _ hP hD hS ls (lv_sub hl [0, 1, 2] rfl)
              exact lpc _ 0 (Nat.zero_le _) (Nat.lt_succ_self _) _ _ hP hD hS ls (lv_sub hl [0, 1, 2] rfl)
            · replace cj : ¬ (nI (r_sz u)) ≤ (nI k9) := cj
              have hjn : k9 < r_sz u := nge_N (Nat.lt_of_le_of_lt hz9 (Nat.le_of_ble_eq_true rfl)) (Nat.lt_of_le_of_lt (Nat.le_trans hk9 hz9) (Nat.le_of_ble_eq_true rfl)) cj
              refine lv_lload_n hx hb dX5_digest_141 rfl (lv_at hl 1 rfl) ?_
              refine lv_ldc2 hx hb hown (hts _ (List.mem_of_getElem? (i := 4) rfl)) dX5_digest_142 ?_
              refine lv_lmul hx hb dX5_digest_145 ?_
              refine lv_aload_n hx hb dX5_digest_146 rfl (lv_at hl 2 rfl) ?_
              refine va_get (D := D) (ci := 5) (v := .ref (b 4)) (C := RX5) (T := TX5) (N := 22) hx hb hts (fun _ h => List.mem_cons_of_mem _ (List.mem_append_right _ h)) hown hK hP 0 rfl rfl 6 (by decide) (hts _ (List.mem_of_getElem? (i := 11) rfl)) (fun _ h9 => h9) rfl dX5_digest_147 ?_
              refine lv_iload_n hx hb dX5_digest_150 rfl (lv_at hl 0 rfl) ?_
              refine ildN hx hb hK hP 4 0 rfl rfl k9 (Nat.lt_of_lt_of_le hjn hz9) ((Nat.le_of_ble_eq_true rfl)) dX5_digest_151 ?_
              refine lv_i2l hx hb dX5_digest_152 rfl ?_
              refine lv_ladd hx hb dX5_digest_153 ?_
              refine lv_lstore_n (lv' := [(1, .long (((dgb (r_tx u) d4 k9) * 31) + (((r_tx u) k9).toInt64))), (3, .int (nI k9)), (0, .ref (b 0))]) hx hb dX5_digest_154 rfl hl (by decide) rfl (fun ls hl => ?_)
              refine lv_iinc (v := nI (k9 + 1)) (lv' := [(3, .int (nI (k9 + 1))), (1, .long (((dgb (r_tx u) d4 k9) * 31) + (((r_tx u) k9).toInt64))), (0, .ref (b 0))]) hx hb dX5_digest_155 hl (k := 1) rfl (nI_1 _) (by decide) rfl (fun ls hl => ?_)
              refine lv_goto (tgt := 133) hx hb dX5_digest_158 (by decide) ?_
              exact ih_lpt (k9 + 1) (hjn) (loopm hm9 hjn) _ _ hP hD hS ls (lv_sub hl [0, 1, 2] rfl)
        exact lpt _ 0 (Nat.zero_le _) (Nat.lt_succ_self _) _ _ hP hD hS ls (lv_sub hl [0, 1, 2] rfl)
      · replace cj : ¬ (nI (r_n u)) ≤ (nI k9) := cj
        have hjn : k9 < r_n u := nge_N (by omega) (by omega) cj
        have hj6 : k9 < 6 := by omega
        refine lv_lload_n hx hb dX5_digest_25 rfl (lv_at hl 1 rfl) ?_
        refine lv_ldc2 hx hb hown (hts _ (List.mem_of_getElem? (i := 4) rfl)) dX5_digest_26 ?_
        refine lv_lmul hx hb dX5_digest_29 ?_
        refine lv_aload_n hx hb dX5_digest_30 rfl (lv_at hl 2 rfl) ?_
        refine va_get (D := D) (ci := 5) (v := .ref (b 1)) (C := RX5) (T := TX5) (N := 22) hx hb hts (fun _ h => List.mem_cons_of_mem _ (List.mem_append_right _ h)) hown hK hP 0 rfl rfl 2 (by decide) (hts _ (List.mem_of_getElem? (i := 5) rfl)) (fun _ h9 => h9) rfl dX5_digest_31 ?_
        refine lv_iload_n hx hb dX5_digest_34 rfl (lv_at hl 0 rfl) ?_
        refine ildN hx hb hK hP 1 0 rfl rfl k9 (hj6) ((Nat.le_of_ble_eq_true rfl)) dX5_digest_35 ?_
        refine lv_i2l hx hb dX5_digest_36 rfl ?_
        refine lv_ladd hx hb dX5_digest_37 ?_
        refine lv_ldc2 hx hb hown (hts _ (List.mem_of_getElem? (i := 4) rfl)) dX5_digest_38 ?_
        refine lv_lmul hx hb dX5_digest_41 ?_
        refine lv_aload_n hx hb dX5_digest_42 rfl (lv_at hl 2 rfl) ?_
        refine va_get (D := D) (ci := 5) (v := .ref (b 2)) (C := RX5) (T := TX5) (N := 22) hx hb hts (fun _ h => List.mem_cons_of_mem _ (List.mem_append_right _ h)) hown hK hP 0 rfl rfl 3 (by decide) (hts _ (List.mem_of_getElem? (i := 6) rfl)) (fun _ h9 => h9) rfl dX5_digest_43 ?_
        refine lv_iload_n hx hb dX5_digest_46 rfl (lv_at hl 0 rfl) ?_
        refine ildN hx hb hK hP 2 0 rfl rfl k9 (hj6) ((Nat.le_of_ble_eq_true rfl)) dX5_digest_47 ?_
        refine lv_i2l hx hb dX5_digest_48 rfl ?_
        refine lv_ladd hx hb dX5_digest_49 ?_
        refine lv_ldc2 hx hb hown (hts _ (List.mem_of_getElem? (i := 4) rfl)) dX5_digest_50 ?_
        refine lv_lmul hx hb dX5_digest_53 ?_
        refine lv_aload_n hx hb dX5_digest_54 rfl (lv_at hl 2 rfl) ?_
        refine va_get (D := D) (ci := 5) (v := .ref (b 3)) (C := RX5) (T := TX5) (N := 22) hx hb hts (fun _ h => List.mem_cons_of_mem _ (List.mem_append_right _ h)) hown hK hP 0 rfl rfl 4 (by decide) (hts _ (List.mem_of_getElem? (i := 7) rfl)) (fun _ h9 => h9) rfl dX5_digest_55 ?_
        refine lv_iload_n hx hb dX5_digest_58 rfl (lv_at hl 0 rfl) ?_
        refine ildN hx hb hK hP 3 0 rfl rfl k9 (hj6) ((Nat.le_of_ble_eq_true rfl)) dX5_digest_59 ?_
        refine lv_i2l hx hb dX5_digest_60 rfl ?_
        refine lv_ladd hx hb dX5_digest_61 ?_
        refine lv_topl (fun d3 hd3 => ?_)
        refine lv_lstore_n (lv' := [(1, .long d3), (3, .int (nI k9)), (0, .ref (b 0))]) hx hb dX5_digest_62 rfl hl (by decide) rfl (fun ls hl => ?_)
        refine lv_iconst (v := 0) hx hb dX5_digest_63 (by decide) ?_
        refine lv_istore (lv' := [(4, .int 0), (1, .long d3), (3, .int (nI k9)), (0, .ref (b 0))]) hx hb dX5_digest_64 hl (by decide) rfl (fun ls hl => ?_)
        have lpi : ∀ (n9 : Nat) (p9 : Nat) (hp9 : p9 ≤ 8), 8 - p9 < n9 → ∀ (H : Heap) (locs : List Loc), va_P D vwCl (rfW cI b (rs_th u 0)) H → va_D A (rfW cI b (rs_th u 0)) → va_S A s.heap H locs → ∀ (ls : Array Slot), lv_has ls 5 [(4, .int (nI p9)), (1, .long (dgw u k9 p9 d3)), (3, .int (nI k9)), (0, .ref (b 0))] → W p l e (headSpec wsX5_digest ({ frames := 0, cells := 0, slots := 0, locals := 0 })).room s m (([.ref (b 0)] : List Value).toArray) below meth c H locs 0 0 (MQ below (va_Ql (fun x (_ : Unit) => x = (r_dig u)) (fun _ t => hq D A (rfW cI b (rs_th u 0)) t) A) (([.ref (b 0)] : List Value).toArray) s 0 0 A) (F0 m 66 ls []) := by
          intro n9
          induction n9 with
          | zero => intro p9 hp9 hm9; exact absurd hm9 (Nat.not_lt_zero _)
          | succ n9 ih_lpi =>
            intro p9 hp9 hm9 H locs hP hD hS ls hl
            refine lv_iload hx hb dX5_digest_66 (lv_at hl 0 rfl) ?_
            refine lv_bipush (v := 8) hx hb dX5_digest_68 (by decide) ?_
            refine lv_icmp_ge (tgt := 99) hx hb dX5_digest_70 (by decide) (fun cp => ?_) (fun cp => ?_)
            · replace cp : (8 : Int32) ≤ (nI p9) := cp
              have hpp : p9 = 8 := by have h8 := ge_N (a := 8) (by omega) (by omega) cp; omega
              rw [hpp] at hl
              refine lv_lload_n hx hb dX5_digest_99 rfl (lv_at hl 1 rfl) ?_
              refine lv_ldc2 hx hb hown (hts _ (List.mem_of_getElem? (i := 4) rfl)) dX5_digest_100 ?_
              refine lv_lmul hx hb dX5_digest_103 ?_
              refine lv_aload_n hx hb dX5_digest_104 rfl (lv_at hl 3 rfl) ?_
              refine va_get (D := D) (ci := 5) (v := .ref (b 9)) (C := RX5) (T := TX5) (N := 22) hx hb hts (fun _ h => List.mem_cons_of_mem _ (List.mem_append_right _ h)) hown hK hP 0 rfl rfl 11 (by decide) (hts _ (List.mem_of_getElem? (i := 9) rfl)) (fun _ h9 => h9) rfl dX5_digest_105 ?_
              refine lv_iload_n hx hb dX5_digest_108 rfl (lv_at hl 2 rfl) ?_
              refine ildN hx hb hK hP 9 0 rfl rfl k9 (by omega) ((Nat.le_of_ble_eq_true rfl)) dX5_digest_109 ?_
              refine lv_i2l hx hb dX5_digest_110 rfl ?_
              refine lv_ladd hx hb dX5_digest_111 ?_
              refine lv_lstore_n (lv' := [(1, .long (((dgw u k9 8 d3) * 31) + (((r_cl u) k9).toInt64))), (4, .int (nI 8)), (3, .int (nI k9)), (0, .ref (b 0))]) hx hb dX5_digest_112 rfl hl (by decide) rfl (fun ls hl => ?_)
              refine lv_iinc (v := nI (k9 + 1)) (lv' := [(3, .int (nI (k9 + 1))), (1, .long (((dgw u k9 8 d3) * 31) + (((r_cl u) k9).toInt64))), (4, .int (nI 8)), (0, .ref (b 0))]) hx hb dX5_digest_113 hl (k := 2) rfl (nI_1 _) (by decide) rfl (fun ls hl => ?_)
              refine lv_goto (tgt := 17) hx hb dX5_digest_116 (by decide) ?_
              subst hd3
              exact ih_lpm (k9 + 1) (by omega) (by omega) _ _ hP hD hS ls (lv_sub hl [0, 1, 3] rfl)
            · replace cp : ¬ (8 : Int32) ≤ (nI p9) := cp
              have hpp : p9 < 8 := nge_N (a := 8) (by omega) (by omega) cp
              refine lv_lload_n hx hb dX5_digest_73 rfl (lv_at hl 1 rfl) ?_
              refine lv_ldc2 hx hb hown (hts _ (List.mem_of_getElem? (i := 4) rfl)) dX5_digest_74 ?_
              refine lv_lmul hx hb dX5_digest_77 ?_
              refine lv_aload_n hx hb dX5_digest_78 rfl (lv_at hl 3 rfl) ?_
              refine va_get (D := D) (ci := 5) (v := .ref (b 8)) (C := RX5) (T := TX5) (N := 22) hx hb hts (fun _ h => List.mem_cons_of_mem _ (List.mem_append_right _ h)) hown hK hP 0 rfl rfl 10 (by decide) (hts _ (List.mem_of_getElem? (i := 8) rfl)) (fun _ h9 => h9) rfl dX5_digest_79 ?_
              refine lv_bipush (v := 8) hx hb dX5_digest_82 (by decide) ?_
              refine lv_iload_n hx hb dX5_digest_84 rfl (lv_at hl 2 rfl) ?_
              refine lv_imul hx hb dX5_digest_85 ?_
              refine lv_iload hx hb dX5_digest_86 (lv_at hl 0 rfl) ?_
              refine lv_iadd hx hb dX5_digest_88 ?_
              refine topI (y := nI (8 * k9 + p9)) (wixN _ _) ?_
              refine ildN hx hb hK hP 8 0 rfl rfl (8 * k9 + p9) (by omega) ((Nat.le_of_ble_eq_true rfl)) dX5_digest_89 ?_
              refine lv_i2l hx hb dX5_digest_90 rfl ?_
              refine lv_ladd hx hb dX5_digest_91 ?_
              refine lv_lstore_n (lv' := [(1, .long (((dgw u k9 p9 d3) * 31) + (((r_we u) (8 * k9 + p9)).toInt64))), (4, .int (nI p9)), (3, .int (nI k9)), (0, .ref (b 0))]) hx hb dX5_digest_92 rfl hl (by decide) rfl (fun ls hl => ?_)
              refine lv_iinc (v := nI (p9 + 1)) (lv' := [(4, .int (nI (p9 + 1))), (1, .long (((dgw u k9 p9 d3) * 31) + (((r_we u) (8 * k9 + p9)).toInt64))), (3, .int (nI k9)), (0, .ref (b 0))]) hx hb dX5_digest_93 hl (k := 1) rfl (nI_1 _) (by decide) rfl (fun ls hl => ?_)
              refine lv_goto (tgt := 66) hx hb dX5_digest_96 (by decide) ?_
              exact ih_lpi (p9 + 1) (by omega) (by omega) _ _ hP hD hS ls (lv_sub hl [0, 1, 2, 3] rfl)
        exact lpi _ 0 (Nat.zero_le _) (Nat.lt_succ_self _) _ _ hP hD hS ls (lv_sub hl [0, 1, 2, 3] rfl)
  exact lpm _ 0 (Nat.zero_le _) (Nat.lt_succ_self _) _ _ hP hD hS ls (lv_sub hl [0, 1, 2] rfl)
