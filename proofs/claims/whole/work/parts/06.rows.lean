/-! ===== ByteRow ===== -/
theorem putW_nil (ws w : va_W) : putW ws [] w = ws := by cases w <;> rfl
theorem rowW_all (cI : ClassId) (h0 h1 lim : Nat) (r r' : Row) : putW (rowW cI h0 h1 lim r) [0, 1] (rowW cI h0 h1 lim r') = rowW cI h0 h1 lim r' := rfl
theorem ivW_all (h0 : Nat) (v v' : Iv) : putW (ivW h0 v) [0] (ivW h0 v') = ivW h0 v' := rfl
def q_has (r : Row) (k : Int32) : Int32 := if 0 ≤ k.toInt ∧ k.toInt < (q_c r : Int) then 1 else 0
def q_at (r : Row) (k : Int32) : Int32 := if 0 ≤ k.toInt ∧ k.toInt < (q_c r : Int) then q_f r k.toNatClampNeg else 0
def q_put (r : Row) (k v : Int32) : Row := if 0 ≤ k.toInt ∧ k.toInt < (q_c r : Int) then qs_f r (upd (q_f r) k.toNatClampNeg v) else r
def q_app (lim : Nat) (r : Row) (v : Int32) : Row := if q_c r < lim then qs_f (qs_c r (q_c r + 1)) (upd (q_f r) (q_c r) v) else r
theorem q_has_in {r : Row} {k : Int32} (h : ¬ q_has r k = 0) : 0 ≤ k.toInt ∧ k.toInt < (q_c r : Int) := by
  unfold q_has at h
  split at h
  · assumption
  · exact absurd rfl h
theorem q_has_out {r : Row} {k : Int32} (h : q_has r k = 0) : ¬ (0 ≤ k.toInt ∧ k.toInt < (q_c r : Int)) := by
  unfold q_has at h
  split at h
  · exact absurd h (by decide)
  · assumption

set_option maxHeartbeats 4000000 in
set_option maxRecDepth 100000 in
/-- whether there is a byte at k -/
theorem c_X0_has (l : Launch) (D : va_G) (cI cL cM : ClassId) (A : Nat → Prop) (h0 h1 lim : Nat) (r : Row) (k : Int32) (hc : q_c r ≤ lim) (hm : lim < 2147483648) : mI l yX0_has wsX0_has ({ frames := 0, cells := 0, slots := 0, locals := 0 }) D (tB cI cL cM) A [.ref h0, .int k] (rowW cI h0 h1 lim r) (q_has r k) (rowW cI h0 h1 lim r) := by
  refine Met.ofW (cc := cX0_has) (maxL := 2) (ret := (some .boolean)) (by decide) rfl ?_
  intro p e s m args below meth c s₁ B hml hv
  obtain ⟨rfl, hP, hE, hD, hA⟩ := hv
  have hK := hE.1
  have hx := B.exec
  have hb := B.bytes
  have hr := B.returns
  have hts := atoms_spec (ws := wsX0_has) B.pre
  have hown : s.vm.findClass RX0 = some m.cls := findClass_of_methodNamed B.named
  have hlocks := B.notSynchronized
  have hS : va_S A s.heap s.heap [] := va_S.rf
  have hl := lv_entry ([.ref h0, .int k]) (n := 2) (Nat.le_of_ble_eq_true rfl)
  rw [lg_entry_eq]
  generalize (lg_sl ([.ref h0, .int k]) ++ List.replicate (2 - (lg_sl ([.ref h0, .int k])).length) Slot.unset).toArray = ls at hl ⊢
  have hl : lv_has ls 2 [(0, .ref h0), (1, .int k)] := hl
  have hcT := nIT hc hm
  have hmT := nIT (Nat.le_refl lim) hm
  refine lv_iload_n hx hb dX0_has_0 rfl (lv_at hl 1 rfl) ?_
  refine lv_if_lt (tgt := 25) hx hb dX0_has_1 (by decide) (fun c_1 => ?_) (fun c_1 => ?_)
  · replace c_1 : k < (0 : Int32) := c_1
    try simp only [Int32.lt_iff_toInt_lt, Int32.le_iff_toInt_le, tI0, hcT, hmT, tI0] at c_1
    refine lv_iconst (v := 0) hx hb dX0_has_25 (by decide) ?_
    exact W.zret (v := 0) hx hb hr rfl (fun t ht hW => ⟨⟨0, (), rfl, by unfold q_has; split <;> first | rfl | omega, by rw [ht]; exact hP, hD⟩, hS.F ht⟩) hS.2.2 dX0_has_26
  · replace c_1 : ¬ k < (0 : Int32) := c_1
    try simp only [Int32.lt_iff_toInt_lt, Int32.le_iff_toInt_le, tI0, hcT, hmT, tI0] at c_1
    refine lv_iload_n hx hb dX0_has_4 rfl (lv_at hl 1 rfl) ?_
    refine lv_aload_n hx hb dX0_has_5 rfl (lv_at hl 0 rfl) ?_
    refine va_get (D := D) (ci := 0) (v := .int (nI (q_c r))) (C := RX0) (T := TX0) (N := 2) hx hb hts (fun _ h => List.mem_cons_of_mem _ (List.mem_append_right _ h)) hown hK hP 0 rfl rfl 1 (by decide) (hts _ (List.mem_of_getElem? (i := 1) rfl)) (fun _ h9 => h9) rfl dX0_has_6 ?_
    refine lv_icmp_ge (tgt := 25) hx hb dX0_has_9 (by decide) (fun c_2 => ?_) (fun c_2 => ?_)
    · replace c_2 : (nI (q_c r)) ≤ k := c_2
      try simp only [Int32.lt_iff_toInt_lt, Int32.le_iff_toInt_le, tI0, hcT, hmT] at c_2
      refine lv_iconst (v := 0) hx hb dX0_has_25 (by decide) ?_
      exact W.zret (v := 0) hx hb hr rfl (fun t ht hW => ⟨⟨0, (), rfl, by unfold q_has; split <;> first | rfl | omega, by rw [ht]; exact hP, hD⟩, hS.F ht⟩) hS.2.2 dX0_has_26
    · replace c_2 : ¬ (nI (q_c r)) ≤ k := c_2
      try simp only [Int32.lt_iff_toInt_lt, Int32.le_iff_toInt_le, tI0, hcT, hmT] at c_2
      refine lv_iload_n hx hb dX0_has_12 rfl (lv_at hl 1 rfl) ?_
      refine lv_aload_n hx hb dX0_has_13 rfl (lv_at hl 0 rfl) ?_
      refine va_get (D := D) (ci := 0) (v := .ref h1) (C := RX0) (T := TX0) (N := 2) hx hb hts (fun _ h => List.mem_cons_of_mem _ (List.mem_append_right _ h)) hown hK hP 0 rfl rfl 0 (by decide) (hts _ (List.mem_of_getElem? (i := 2) rfl)) (fun _ h9 => h9) rfl dX0_has_14 ?_
      refine va_alen (v := nI lim) hx hb hK hP 1 0 rfl rfl rfl dX0_has_17 ?_
      refine lv_icmp_ge (tgt := 25) hx hb dX0_has_18 (by decide) (fun c_3 => ?_) (fun c_3 => ?_)
      · replace c_3 : (nI lim) ≤ k := c_3
        try simp only [Int32.lt_iff_toInt_lt, Int32.le_iff_toInt_le, tI0, hcT, hmT] at c_3
        refine lv_iconst (v := 0) hx hb dX0_has_25 (by decide) ?_
        exact W.zret (v := 0) hx hb hr rfl (fun t ht hW => ⟨⟨0, (), rfl, by unfold q_has; split <;> first | rfl | omega, by rw [ht]; exact hP, hD⟩, hS.F ht⟩) hS.2.2 dX0_has_26
      · replace c_3 : ¬ (nI lim) ≤ k := c_3
        try simp only [Int32.lt_iff_toInt_lt, Int32.le_iff_toInt_le, tI0, hcT, hmT] at c_3
        refine lv_iconst (v := 1) hx hb dX0_has_21 (by decide) ?_
        refine lv_goto (tgt := 26) hx hb dX0_has_22 (by decide) ?_
        exact W.zret (v := 1) hx hb hr rfl (fun t ht hW => ⟨⟨1, (), rfl, by unfold q_has; split <;> first | rfl | omega, by rw [ht]; exact hP, hD⟩, hS.F ht⟩) hS.2.2 dX0_has_26

set_option maxHeartbeats 4000000 in
set_option maxRecDepth 100000 in
/-- the byte at k, 0 where there is none -/
theorem c_X0_at (l : Launch) (D : va_G) (cI cL cM : ClassId) (A : Nat → Prop) (h0 h1 lim : Nat) (r : Row) (k : Int32) (hc : q_c r ≤ lim) (hm : lim < 2147483648) : mI l yX0_at wsX0_at ({ frames := 1, cells := 0, slots := 0, locals := 21 }) D (tB cI cL cM) A [.ref h0, .int k] (rowW cI h0 h1 lim r) (q_at r k) (rowW cI h0 h1 lim r) := by
  refine Met.ofW (cc := cX0_at) (maxL := 2) (ret := (some .int)) (by decide) rfl ?_
  intro p e s m args below meth c s₁ B hml hv
  obtain ⟨rfl, hP, hE, hD, hA⟩ := hv
  have hK := hE.1
  have hx := B.exec
  have hb := B.bytes
  have hr := B.returns
  have hts := atoms_spec (ws := wsX0_at) B.pre
  have hown : s.vm.findClass RX0 = some m.cls := findClass_of_methodNamed B.named
  have hlocks := B.notSynchronized
  have hS : va_S A s.heap s.heap [] := va_S.rf
  have hl := lv_entry ([.ref h0, .int k]) (n := 2) (Nat.le_of_ble_eq_true rfl)
  rw [lg_entry_eq]
  generalize (lg_sl ([.ref h0, .int k]) ++ List.replicate (2 - (lg_sl ([.ref h0, .int k])).length) Slot.unset).toArray = ls at hl ⊢
  have hl : lv_has ls 2 [(0, .ref h0), (1, .int k)] := hl
  have hcT := nIT hc hm
  have hmT := nIT (Nat.le_refl lim) hm
  refine lv_aload_n hx hb dX0_at_0 rfl (lv_at hl 0 rfl) ?_
  refine lv_iload_n hx hb dX0_at_1 rfl (lv_at hl 1 rfl) ?_
  refine kI (rV (As := [.int k]) (rest := []) ⟨hx, hb, hml, hown, hts⟩ (c_X0_has l D cI cL cM _ h0 h1 lim r k hc hm) (cwV 1 hts gX0_at_X0_has rfl rfl rfl (by decide +kernel) ⟨(Nat.le_of_ble_eq_true rfl), (Nat.le_of_ble_eq_true rfl)⟩) hE hP hD [0, 1] rfl rfl rfl rfl rfl hl.1 rfl (Nat.le_of_ble_eq_true rfl) dX0_at_2 ⟨(Nat.le_of_ble_eq_true rfl), (Nat.le_of_ble_eq_true rfl)⟩) hP hD hS hA (is := [0, 1]) rfl rfl (fun H locs hP hD hS => ?_)
  rw [rowW_all] at hP hD
  have hP : va_P D vwCl (rowW cI h0 h1 lim r) H := hP
  have hD : va_D A (rowW cI h0 h1 lim r) := hD
  refine lv_if_eq (tgt := 17) hx hb dX0_at_5 (by decide) (fun c_1 => ?_) (fun c_1 => ?_)
  · replace c_1 : (q_has r k) = (0 : Int32) := c_1
    have c9 := q_has_out c_1
    refine lv_iconst (v := 0) hx hb dX0_at_17 (by decide) ?_
    exact W.iret (v := 0) hx hb hr (fun t ht hW => ⟨⟨0, (), rfl, by unfold q_at; split <;> first | rfl | (exfalso; omega), by rw [ht]; exact hP, hD⟩, hS.F ht⟩) hS.2.2 dX0_at_18
  · replace c_1 : ¬ (q_has r k) = (0 : Int32) := c_1
    have c9 := q_has_in c_1
    refine lv_aload_n hx hb dX0_at_8 rfl (lv_at hl 0 rfl) ?_
    refine va_get (D := D) (ci := 0) (v := .ref h1) (C := RX0) (T := TX0) (N := 2) hx hb hts (fun _ h => List.mem_cons_of_mem _ (List.mem_append_right _ h)) hown hK hP 0 rfl rfl 0 (by decide) (hts _ (List.mem_of_getElem? (i := 1) rfl)) (fun _ h9 => h9) rfl dX0_at_9 ?_
    refine lv_iload_n hx hb dX0_at_12 rfl (lv_at hl 1 rfl) ?_
    refine va_iald hx hb hK hP 1 0 rfl rfl (vin c9.1 (by omega)) dX0_at_13 ?_
    refine lv_goto (tgt := 18) hx hb dX0_at_14 (by decide) ?_
    exact W.iret (v := (q_f r) k.toNatClampNeg) hx hb hr (fun t ht hW => ⟨⟨((q_f r) k.toNatClampNeg), (), rfl, by unfold q_at; split <;> first | rfl | (exfalso; omega), by rw [ht]; exact hP, hD⟩, hS.F ht⟩) hS.2.2 dX0_at_18

set_option maxHeartbeats 4000000 in
set_option maxRecDepth 100000 in
theorem c_X0_put (l : Launch) (D : va_G) (cI cL cM : ClassId) (A : Nat → Prop) (h0 h1 lim : Nat) (r : Row) (k v : Int32) (hc : q_c r ≤ lim) (hm : lim < 2147483648) : mV l yX0_put wsX0_put ({ frames := 1, cells := 0, slots := 0, locals := 21 }) D (tB cI cL cM) A [.ref h0, .int k, .int v] (rowW cI h0 h1 lim r) (rowW cI h0 h1 lim (q_put r k v)) := by
  refine Met.ofW (cc := cX0_put) (maxL := 3) (ret := none) (by decide) rfl ?_
  intro p e s m args below meth c s₁ B hml hv
  obtain ⟨rfl, hP, hE, hD, hA⟩ := hv
  have hK := hE.1
  have hx := B.exec
  have hb := B.bytes
  have hr := B.returns
  have hts := atoms_spec (ws := wsX0_put) B.pre
  have hown : s.vm.findClass RX0 = some m.cls := findClass_of_methodNamed B.named
  have hlocks := B.notSynchronized
  have hS : va_S A s.heap s.heap [] := va_S.rf
  have hl := lv_entry ([.ref h0, .int k, .int v]) (n := 3) (Nat.le_of_ble_eq_true rfl)
  rw [lg_entry_eq]
  generalize (lg_sl ([.ref h0, .int k, .int v]) ++ List.replicate (3 - (lg_sl ([.ref h0, .int k, .int v])).length) Slot.unset).toArray = ls at hl ⊢
  have hl : lv_has ls 3 [(0, .ref h0), (1, .int k), (2, .int v)] := hl
  have hcT := nIT hc hm
  have hmT := nIT (Nat.le_refl lim) hm
  refine lv_aload_n hx hb dX0_put_0 rfl (lv_at hl 0 rfl) ?_
  refine lv_iload_n hx hb dX0_put_1 rfl (lv_at hl 1 rfl) ?_
  refine kI (rV (As := [.int k]) (rest := []) ⟨hx, hb, hml, hown, hts⟩ (c_X0_has l D cI cL cM _ h0 h1 lim r k hc hm) (cwV 1 hts gX0_put_X0_has rfl rfl rfl (by decide +kernel) ⟨(Nat.le_of_ble_eq_true rfl), (Nat.le_of_ble_eq_true rfl)⟩) hE hP hD [0, 1] rfl rfl rfl rfl rfl hl.1 rfl (Nat.le_of_ble_eq_true rfl) dX0_put_2 ⟨(Nat.le_of_ble_eq_true rfl), (Nat.le_of_ble_eq_true rfl)⟩) hP hD hS hA (is := [0, 1]) rfl rfl (fun H locs hP hD hS => ?_)
  rw [rowW_all] at hP hD
  have hP : va_P D vwCl (rowW cI h0 h1 lim r) H := hP
  have hD : va_D A (rowW cI h0 h1 lim r) := hD
  refine lv_if_eq (tgt := 15) hx hb dX0_put_5 (by decide) (fun c_1 => ?_) (fun c_1 => ?_)
  · replace c_1 : (q_has r k) = (0 : Int32) := c_1
    have c9 := q_has_out c_1
    have hw9 : (rowW cI h0 h1 lim r) = (rowW cI h0 h1 lim (q_put r k v)) := by unfold q_put; split <;> first | rfl | (exfalso; omega)
    rw [hw9] at hP hD
    exact W.vret hx hb hr (fun t ht hW => ⟨⟨(), rfl, trivial, by rw [ht]; exact hP, hD⟩, hS.F ht⟩) hS.2.2 dX0_put_15
  · replace c_1 : ¬ (q_has r k) = (0 : Int32) := c_1
    have c9 := q_has_in c_1
    refine lv_aload_n hx hb dX0_put_8 rfl (lv_at hl 0 rfl) ?_
    refine va_get (D := D) (ci := 0) (v := .ref h1) (C := RX0) (T := TX0) (N := 2) hx hb hts (fun _ h => List.mem_cons_of_mem _ (List.mem_append_right _ h)) hown hK hP 0 rfl rfl 0 (by decide) (hts _ (List.mem_of_getElem? (i := 1) rfl)) (fun _ h9 => h9) rfl dX0_put_9 ?_
    refine lv_iload_n hx hb dX0_put_12 rfl (lv_at hl 1 rfl) ?_
    refine lv_iload_n hx hb dX0_put_13 rfl (lv_at hl 2 rfl) ?_
    refine va_iast hx hb hK hP hD hS 1 0 rfl rfl (vin c9.1 (by omega)) dX0_put_14 (fun H locs hP hD hS => ?_)
    have hP : va_P D vwCl (rowW cI h0 h1 lim (qs_f r (upd (q_f r) k.toNatClampNeg v))) H := hP
    have hD : va_D A (rowW cI h0 h1 lim (qs_f r (upd (q_f r) k.toNatClampNeg v))) := hD
    have hw9 : (rowW cI h0 h1 lim (qs_f r (upd (q_f r) k.toNatClampNeg v))) = (rowW cI h0 h1 lim (q_put r k v)) := by unfold q_put; split <;> first | rfl | (exfalso; omega)
    rw [hw9] at hP hD
    exact W.vret hx hb hr (fun t ht hW => ⟨⟨(), rfl, trivial, by rw [ht]; exact hP, hD⟩, hS.F ht⟩) hS.2.2 dX0_put_15

set_option maxHeartbeats 4000000 in
set_option maxRecDepth 100000 in
theorem c_X0_append (l : Launch) (D : va_G) (cI cL cM : ClassId) (A : Nat → Prop) (h0 h1 lim : Nat) (r : Row) (v : Int32) (hc : q_c r ≤ lim) (hm : lim < 2147483648) : mV l yX0_append wsX0_append ({ frames := 0, cells := 0, slots := 0, locals := 0 }) D (tB cI cL cM) A [.ref h0, .int v] (rowW cI h0 h1 lim r) (rowW cI h0 h1 lim (q_app lim r v)) := by
  refine Met.ofW (cc := cX0_append) (maxL := 2) (ret := none) (by decide) rfl ?_
  intro p e s m args below meth c s₁ B hml hv
  obtain ⟨rfl, hP, hE, hD, hA⟩ := hv
  have hK := hE.1
  have hx := B.exec
  have hb := B.bytes
  have hr := B.returns
  have hts := atoms_spec (ws := wsX0_append) B.pre
  have hown : s.vm.findClass RX0 = some m.cls := findClass_of_methodNamed B.named
  have hlocks := B.notSynchronized
  have hS : va_S A s.heap s.heap [] := va_S.rf
  have hl := lv_entry ([.ref h0, .int v]) (n := 2) (Nat.le_of_ble_eq_true rfl)
  rw [lg_entry_eq]
  generalize (lg_sl ([.ref h0, .int v]) ++ List.replicate (2 - (lg_sl ([.ref h0, .int v])).length) Slot.unset).toArray = ls at hl ⊢
  have hl : lv_has ls 2 [(0, .ref h0), (1, .int v)] := hl
  have hcT := nIT hc hm
  have hmT := nIT (Nat.le_refl lim) hm
  refine lv_aload_n hx hb dX0_append_0 rfl (lv_at hl 0 rfl) ?_
  refine va_get (D := D) (ci := 0) (v := .int (nI (q_c r))) (C := RX0) (T := TX0) (N := 2) hx hb hts (fun _ h => List.mem_cons_of_mem _ (List.mem_append_right _ h)) hown hK hP 0 rfl rfl 1 (by decide) (hts _ (List.mem_of_getElem? (i := 1) rfl)) (fun _ h9 => h9) rfl dX0_append_1 ?_
  refine lv_if_lt (tgt := 39) hx hb dX0_append_4 (by decide) (fun c_1 => absurd c_1 (nI_pos (Nat.lt_of_le_of_lt hc hm))) (fun c_1 => ?_)
  refine lv_aload_n hx hb dX0_append_7 rfl (lv_at hl 0 rfl) ?_
  refine va_get (D := D) (ci := 0) (v := .int (nI (q_c r))) (C := RX0) (T := TX0) (N := 2) hx hb hts (fun _ h => List.mem_cons_of_mem _ (List.mem_append_right _ h)) hown hK hP 0 rfl rfl 1 (by decide) (hts _ (List.mem_of_getElem? (i := 1) rfl)) (fun _ h9 => h9) rfl dX0_append_8 ?_
  refine lv_aload_n hx hb dX0_append_11 rfl (lv_at hl 0 rfl) ?_
  refine va_get (D := D) (ci := 0) (v := .ref h1) (C := RX0) (T := TX0) (N := 2) hx hb hts (fun _ h => List.mem_cons_of_mem _ (List.mem_append_right _ h)) hown hK hP 0 rfl rfl 0 (by decide) (hts _ (List.mem_of_getElem? (i := 2) rfl)) (fun _ h9 => h9) rfl dX0_append_12 ?_
  refine va_alen (v := nI lim) hx hb hK hP 1 0 rfl rfl rfl dX0_append_15 ?_
  refine lv_icmp_ge (tgt := 39) hx hb dX0_append_16 (by decide) (fun c_2 => ?_) (fun c_2 => ?_)
  · replace c_2 : (nI lim) ≤ (nI (q_c r)) := c_2
    try simp only [Int32.lt_iff_toInt_lt, Int32.le_iff_toInt_le, tI0, hcT, hmT] at c_2
    have hw9 : (rowW cI h0 h1 lim r) = (rowW cI h0 h1 lim (q_app lim r v)) := by unfold q_app; split <;> first | rfl | (exfalso; omega)
    rw [hw9] at hP hD
    exact W.vret hx hb hr (fun t ht hW => ⟨⟨(), rfl, trivial, by rw [ht]; exact hP, hD⟩, hS.F ht⟩) hS.2.2 dX0_append_39
  · replace c_2 : ¬ (nI lim) ≤ (nI (q_c r)) := c_2
    try simp only [Int32.lt_iff_toInt_lt, Int32.le_iff_toInt_le, tI0, hcT, hmT] at c_2
    refine lv_aload_n hx hb dX0_append_19 rfl (lv_at hl 0 rfl) ?_
    refine va_get (D := D) (ci := 0) (v := .ref h1) (C := RX0) (T := TX0) (N := 2) hx hb hts (fun _ h => List.mem_cons_of_mem _ (List.mem_append_right _ h)) hown hK hP 0 rfl rfl 0 (by decide) (hts _ (List.mem_of_getElem? (i := 2) rfl)) (fun _ h9 => h9) rfl dX0_append_20 ?_
    refine lv_aload_n hx hb dX0_append_23 rfl (lv_at hl 0 rfl) ?_
    refine va_get (D := D) (ci := 0) (v := .int (nI (q_c r))) (C := RX0) (T := TX0) (N := 2) hx hb hts (fun _ h => List.mem_cons_of_mem _ (List.mem_append_right _ h)) hown hK hP 0 rfl rfl 1 (by decide) (hts _ (List.mem_of_getElem? (i := 1) rfl)) (fun _ h9 => h9) rfl dX0_append_24 ?_
    refine lv_iload_n hx hb dX0_append_27 rfl (lv_at hl 1 rfl) ?_
    refine istN hx hb hK hP hD hS 1 0 rfl rfl (q_c r) (by omega) (hm) dX0_append_28 (fun H locs hP hD hS => ?_)
    have hP : va_P D vwCl (rowW cI h0 h1 lim (qs_f r (upd (q_f r) (q_c r) v))) H := hP
    have hD : va_D A (rowW cI h0 h1 lim (qs_f r (upd (q_f r) (q_c r) v))) := hD
    refine lv_aload_n hx hb dX0_append_29 rfl (lv_at hl 0 rfl) ?_
    refine lv_dup hx hb dX0_append_30 rfl ?_
    refine va_get (D := D) (ci := 0) (v := .int (nI (q_c r))) (C := RX0) (T := TX0) (N := 2) hx hb hts (fun _ h => List.mem_cons_of_mem _ (List.mem_append_right _ h)) hown hK hP 0 rfl rfl 1 (by decide) (hts _ (List.mem_of_getElem? (i := 1) rfl)) (fun _ h9 => h9) rfl dX0_append_31 ?_
    refine lv_iconst (v := 1) hx hb dX0_append_34 (by decide) ?_
    refine lv_iadd hx hb dX0_append_35 ?_
    refine topI (y := nI ((q_c r) + 1)) (nI_1 _) ?_
    refine va_put (D := D) (ci := 0) (v := .int (nI ((q_c r) + 1))) (ty := .int) (C := RX0) (T := TX0) (N := 2) hx hb hts (fun _ h => List.mem_cons_of_mem _ (List.mem_append_right _ h)) tyX0 tyX0_ok nmX0 hown hK hP hD hS 0 rfl rfl 1 (by decide) (hts _ (List.mem_of_getElem? (i := 1) rfl)) (fun _ h9 => h9) rfl (by decide +kernel) rfl rfl (Nat.le_of_ble_eq_true rfl) dX0_append_36 (fun H locs hP hD hS => ?_)
    have hP : va_P D vwCl (rowW cI h0 h1 lim (qs_f (qs_c r ((q_c r) + 1)) (upd (q_f r) (q_c r) v))) H := hP
    have hD : va_D A (rowW cI h0 h1 lim (qs_f (qs_c r ((q_c r) + 1)) (upd (q_f r) (q_c r) v))) := hD
    have hw9 : (rowW cI h0 h1 lim (qs_f (qs_c r ((q_c r) + 1)) (upd (q_f r) (q_c r) v))) = (rowW cI h0 h1 lim (q_app lim r v)) := by unfold q_app; split <;> first | rfl | (exfalso; omega)
    rw [hw9] at hP hD
    exact W.vret hx hb hr (fun t ht hW => ⟨⟨(), rfl, trivial, by rw [ht]; exact hP, hD⟩, hS.F ht⟩) hS.2.2 dX0_append_39

set_option maxHeartbeats 4000000 in
set_option maxRecDepth 100000 in
theorem c_X0_clear (l : Launch) (D : va_G) (cI cL cM : ClassId) (A : Nat → Prop) (h0 h1 lim : Nat) (r : Row) : mV l yX0_clear wsX0_clear ({ frames := 0, cells := 0, slots := 0, locals := 0 }) D (tB cI cL cM) A [.ref h0] (rowW cI h0 h1 lim r) (rowW cI h0 h1 lim (qs_c r 0)) := by
  refine Met.ofW (cc := cX0_clear) (maxL := 1) (ret := none) (by decide) rfl ?_
  intro p e s m args below meth c s₁ B hml hv
  obtain ⟨rfl, hP, hE, hD, hA⟩ := hv
  have hK := hE.1
  have hx := B.exec
  have hb := B.bytes
  have hr := B.returns
  have hts := atoms_spec (ws := wsX0_clear) B.pre
  have hown : s.vm.findClass RX0 = some m.cls := findClass_of_methodNamed B.named
  have hlocks := B.notSynchronized
  have hS : va_S A s.heap s.heap [] := va_S.rf
  have hl := lv_entry ([.ref h0]) (n := 1) (Nat.le_of_ble_eq_true rfl)
  rw [lg_entry_eq]
  generalize (lg_sl ([.ref h0]) ++ List.replicate (1 - (lg_sl ([.ref h0])).length) Slot.unset).toArray = ls at hl ⊢
  have hl : lv_has ls 1 [(0, .ref h0)] := hl
  refine lv_aload_n hx hb dX0_clear_0 rfl (lv_at hl 0 rfl) ?_
  refine lv_iconst (v := 0) hx hb dX0_clear_1 (by decide) ?_
  refine va_put (D := D) (ci := 0) (v := .int 0) (ty := .int) (C := RX0) (T := TX0) (N := 2) hx hb hts (fun _ h => List.mem_cons_of_mem _ (List.mem_append_right _ h)) tyX0 tyX0_ok nmX0 hown hK hP hD hS 0 rfl rfl 1 (by decide) (hts _ (List.mem_of_getElem? (i := 1) rfl)) (fun _ h9 => h9) rfl (by decide +kernel) rfl rfl (Nat.le_of_ble_eq_true rfl) dX0_clear_2 (fun H locs hP hD hS => ?_)
  have hP : va_P D vwCl (rowW cI h0 h1 lim (qs_c r 0)) H := hP
  have hD : va_D A (rowW cI h0 h1 lim (qs_c r 0)) := hD
  exact W.vret hx hb hr (fun t ht hW => ⟨⟨(), rfl, trivial, by rw [ht]; exact hP, hD⟩, hS.F ht⟩) hS.2.2 dX0_clear_5

/-! ===== Interval ===== -/
def tpb (x : Int64) : Int32 := ((x.toUInt64 >>> ((24 : Int32).toInt64.toUInt64 &&& Int64.toUInt64 63)).toInt64).toInt32
def sh8 (x : Int64) : Int64 := (x <<< ((8 : Int32).toInt64 &&& 63)) &&& 4294967295
def v_mid (v : Iv) (q : Int32) : Int64 := v_lo v + (v_hi v - v_lo v) / 4096 * q.toInt64
def v_nar (v : Iv) (z : Int32) (x : Int64) : Iv := if z = 0 then vs_lo v (x + 1) else vs_hi v x
def v_set (v : Iv) : Int32 := if tpb (v_lo v) = tpb (v_hi v) then 1 else 0
def v_shf (v : Iv) : Iv := vs_hi (vs_lo v (sh8 (v_lo v))) (sh8 (v_hi v) + 255)
def v_opn (v : Iv) : Iv := vs_nx (vs_x (vs_hi (vs_lo v 0) 4294967295) 0) 0
def v_pul (v : Iv) (r : Row) : Iv := vs_nx (vs_x v (sh8 (v_x v) + (q_at r (v_nx v)).toInt64)) (v_nx v + 1)

set_option maxHeartbeats 4000000 in
set_option maxRecDepth 100000 in
theorem c_X1_topByte (l : Launch) (D : va_G) (cI cL cM : ClassId) (A : Nat → Prop) (x : Int64) : mI l yX1_topByte wsX1_topByte ({ frames := 0, cells := 0, slots := 0, locals := 0 }) D (tB cI cL cM) A [.long x] [] (tpb x) [] := by
  refine Met.ofW (cc := cX1_topByte) (maxL := 2) (ret := (some .int)) (by decide) rfl ?_
  intro p e s m args below meth c s₁ B hml hv
  obtain ⟨rfl, hP, hE, hD, hA⟩ := hv
  have hK := hE.1
  have hx := B.exec
  have hb := B.bytes
  have hr := B.returns
  have hts := atoms_spec (ws := wsX1_topByte) B.pre
  have hown : s.vm.findClass RX1 = some m.cls := findClass_of_methodNamed B.named
  have hlocks := B.notSynchronized
  have hS : va_S A s.heap s.heap [] := va_S.rf
  have hl := lv_entry ([.long x]) (n := 2) (Nat.le_of_ble_eq_true rfl)
  rw [lg_entry_eq]
  generalize (lg_sl ([.long x]) ++ List.replicate (2 - (lg_sl ([.long x])).length) Slot.unset).toArray = ls at hl ⊢
  have hl : lv_has ls 2 [(0, .long x)] := hl
  refine lv_lload_n hx hb dX1_topByte_0 rfl (lv_at hl 0 rfl) ?_
  refine lv_bipush (v := 24) hx hb dX1_topByte_1 (by decide) ?_
  refine lv_lushr hx hb dX1_topByte_3 rfl ?_
  refine lv_l2i hx hb dX1_topByte_4 rfl ?_
  exact W.iret (v := ((x.toUInt64 >>> ((24 : Int32).toInt64.toUInt64 &&& Int64.toUInt64 63)).toInt64).toInt32) hx hb hr (fun t ht hW => ⟨⟨(((x.toUInt64 >>> ((24 : Int32).toInt64.toUInt64 &&& Int64.toUInt64 63)).toInt64).toInt32), (), rfl, by rfl, by rw [ht]; exact hP, hD⟩, hS.F ht⟩) hS.2.2 dX1_topByte_5

set_option maxHeartbeats 4000000 in
set_option maxRecDepth 100000 in
theorem c_X1_open (l : Launch) (D : va_G) (cI cL cM : ClassId) (A : Nat → Prop) (h0 : Nat) (v : Iv) : mV l yX1_open wsX1_open ({ frames := 0, cells := 0, slots := 0, locals := 0 }) D (tB cI cL cM) A [.ref h0] (ivW h0 v) (ivW h0 (v_opn v)) := by
  refine Met.ofW (cc := cX1_open) (maxL := 1) (ret := none) (by decide) rfl ?_
  intro p e s m args below meth c s₁ B hml hv
  obtain ⟨rfl, hP, hE, hD, hA⟩ := hv
  have hK := hE.1
  have hx := B.exec
  have hb := B.bytes
  have hr := B.returns
  have hts := atoms_spec (ws := wsX1_open) B.pre
  have hown : s.vm.findClass RX1 = some m.cls := findClass_of_methodNamed B.named
  have hlocks := B.notSynchronized
  have hS : va_S A s.heap s.heap [] := va_S.rf
  have hl := lv_entry ([.ref h0]) (n := 1) (Nat.le_of_ble_eq_true rfl)
  rw [lg_entry_eq]
  generalize (lg_sl ([.ref h0]) ++ List.replicate (1 - (lg_sl ([.ref h0])).length) Slot.unset).toArray = ls at hl ⊢
  have hl : lv_has ls 1 [(0, .ref h0)] := hl
  refine lv_aload_n hx hb dX1_open_0 rfl (lv_at hl 0 rfl) ?_
  refine lv_lconst (v := 0) hx hb dX1_open_1 (by decide) ?_
  refine va_put (D := D) (ci := 1) (v := .long 0) (ty := .long) (C := RX1) (T := TX1) (N := 4) hx hb hts (fun _ h => List.mem_cons_of_mem _ (List.mem_append_right _ h)) tyX1 tyX1_ok nmX1 hown hK hP hD hS 0 rfl rfl 0 (by decide) (hts _ (List.mem_of_getElem? (i := 1) rfl)) (fun _ h9 => h9) rfl (by decide +kernel) rfl rfl (Nat.le_of_ble_eq_true rfl) dX1_open_2 (fun H locs hP hD hS => ?_)
  have hP : va_P D vwCl (ivW h0 (vs_lo v 0)) H := hP
  have hD : va_D A (ivW h0 (vs_lo v 0)) := hD
  refine lv_aload_n hx hb dX1_open_5 rfl (lv_at hl 0 rfl) ?_
  refine lv_ldc2 hx hb hown (hts _ (List.mem_of_getElem? (i := 2) rfl)) dX1_open_6 ?_
  refine va_put (D := D) (ci := 1) (v := .long 4294967295) (ty := .long) (C := RX1) (T := TX1) (N := 4) hx hb hts (fun _ h => List.mem_cons_of_mem _ (List.mem_append_right _ h)) tyX1 tyX1_ok nmX1 hown hK hP hD hS 0 rfl rfl 1 (by decide) (hts _ (List.mem_of_getElem? (i := 3) rfl)) (fun _ h9 => h9) rfl (by decide +kernel) rfl rfl (Nat.le_of_ble_eq_true rfl) dX1_open_9 (fun H locs hP hD hS => ?_)
  have hP : va_P D vwCl (ivW h0 (vs_hi (vs_lo v 0) 4294967295)) H := hP
  have hD : va_D A (ivW h0 (vs_hi (vs_lo v 0) 4294967295)) := hD
  refine lv_aload_n hx hb dX1_open_12 rfl (lv_at hl 0 rfl) ?_
  refine lv_lconst (v := 0) hx hb dX1_open_13 (by decide) ?_
  refine va_put (D := D) (ci := 1) (v := .long 0) (ty := .long) (C := RX1) (T := TX1) (N := 4) hx hb hts (fun _ h => List.mem_cons_of_mem _ (List.mem_append_right _ h)) tyX1 tyX1_ok nmX1 hown hK hP hD hS 0 rfl rfl 2 (by decide) (hts _ (List.mem_of_getElem? (i := 4) rfl)) (fun _ h9 => h9) rfl (by decide +kernel) rfl rfl (Nat.le_of_ble_eq_true rfl) dX1_open_14 (fun H locs hP hD hS => ?_)
  have hP : va_P D vwCl (ivW h0 (vs_x (vs_hi (vs_lo v 0) 4294967295) 0)) H := hP
  have hD : va_D A (ivW h0 (vs_x (vs_hi (vs_lo v 0) 4294967295) 0)) := hD
  refine lv_aload_n hx hb dX1_open_17 rfl (lv_at hl 0 rfl) ?_
  refine lv_iconst (v := 0) hx hb dX1_open_18 (by decide) ?_
  refine va_put (D := D) (ci := 1) (v := .int 0) (ty := .int) (C := RX1) (T := TX1) (N := 4) hx hb hts (fun _ h => List.mem_cons_of_mem _ (List.mem_append_right _ h)) tyX1 tyX1_ok nmX1 hown hK hP hD hS 0 rfl rfl 3 (by decide) (hts _ (List.mem_of_getElem? (i := 5) rfl)) (fun _ h9 => h9) rfl (by decide +kernel) rfl rfl (Nat.le_of_ble_eq_true rfl) dX1_open_19 (fun H locs hP hD hS => ?_)
  have hP : va_P D vwCl (ivW h0 (vs_nx (vs_x (vs_hi (vs_lo v 0) 4294967295) 0) 0)) H := hP
  have hD : va_D A (ivW h0 (vs_nx (vs_x (vs_hi (vs_lo v 0) 4294967295) 0) 0)) := hD
  have hw9 : (ivW h0 (vs_nx (vs_x (vs_hi (vs_lo v 0) 4294967295) 0) 0)) = (ivW h0 (v_opn v)) := by rfl
  rw [hw9] at hP hD
  exact W.vret hx hb hr (fun t ht hW => ⟨⟨(), rfl, trivial, by rw [ht]; exact hP, hD⟩, hS.F ht⟩) hS.2.2 dX1_open_22

set_option maxHeartbeats 4000000 in
set_option maxRecDepth 100000 in
theorem c_X1_middle (l : Launch) (D : va_G) (cI cL cM : ClassId) (A : Nat → Prop) (h0 : Nat) (v : Iv) (q : Int32) : mL l yX1_middle wsX1_middle ({ frames := 0, cells := 0, slots := 0, locals := 0 }) D (tB cI cL cM) A [.ref h0, .int q] (ivW h0 v) (v_mid v q) (ivW h0 v) := by
  refine Met.ofW (cc := cX1_middle) (maxL := 2) (ret := (some .long)) (by decide) rfl ?_
  intro p e s m args below meth c s₁ B hml hv
  obtain ⟨rfl, hP, hE, hD, hA⟩ := hv
  have hK := hE.1
  have hx := B.exec
  have hb := B.bytes
  have hr := B.returns
  have hts := atoms_spec (ws := wsX1_middle) B.pre
  have hown : s.vm.findClass RX1 = some m.cls := findClass_of_methodNamed B.named
  have hlocks := B.notSynchronized
  have hS : va_S A s.heap s.heap [] := va_S.rf
  have hl := lv_entry ([.ref h0, .int q]) (n := 2) (Nat.le_of_ble_eq_true rfl)
  rw [lg_entry_eq]
  generalize (lg_sl ([.ref h0, .int q]) ++ List.replicate (2 - (lg_sl ([.ref h0, .int q])).length) Slot.unset).toArray = ls at hl ⊢
  have hl : lv_has ls 2 [(0, .ref h0), (1, .int q)] := hl
  refine lv_aload_n hx hb dX1_middle_0 rfl (lv_at hl 0 rfl) ?_
  refine va_get (D := D) (ci := 1) (v := .long (v_lo v)) (C := RX1) (T := TX1) (N := 4) hx hb hts (fun _ h => List.mem_cons_of_mem _ (List.mem_append_right _ h)) hown hK hP 0 rfl rfl 0 (by decide) (hts _ (List.mem_of_getElem? (i := 1) rfl)) (fun _ h9 => h9) rfl dX1_middle_1 ?_
  refine lv_aload_n hx hb dX1_middle_4 rfl (lv_at hl 0 rfl) ?_
  refine va_get (D := D) (ci := 1) (v := .long (v_hi v)) (C := RX1) (T := TX1) (N := 4) hx hb hts (fun _ h => List.mem_cons_of_mem _ (List.mem_append_right _ h)) hown hK hP 0 rfl rfl 1 (by decide) (hts _ (List.mem_of_getElem? (i := 2) rfl)) (fun _ h9 => h9) rfl dX1_middle_5 ?_
  refine lv_aload_n hx hb dX1_middle_8 rfl (lv_at hl 0 rfl) ?_
  refine va_get (D := D) (ci := 1) (v := .long (v_lo v)) (C := RX1) (T := TX1) (N := 4) hx hb hts (fun _ h => List.mem_cons_of_mem _ (List.mem_append_right _ h)) hown hK hP 0 rfl rfl 0 (by decide) (hts _ (List.mem_of_getElem? (i := 1) rfl)) (fun _ h9 => h9) rfl dX1_middle_9 ?_
  refine lv_lsub hx hb dX1_middle_12 ?_
  refine lv_ldc2 hx hb hown (hts _ (List.mem_of_getElem? (i := 3) rfl)) dX1_middle_13 ?_
  refine lv_ldiv hx hb dX1_middle_16 (by decide) ?_
  refine lv_iload_n hx hb dX1_middle_17 rfl (lv_at hl 1 rfl) ?_
  refine lv_i2l hx hb dX1_middle_18 rfl ?_
  refine lv_lmul hx hb dX1_middle_19 ?_
  refine lv_ladd hx hb dX1_middle_20 ?_
  exact W.lret (v := (v_lo v) + ((((v_hi v) - (v_lo v)) / 4096) * q.toInt64)) hx hb hr (fun t ht hW => ⟨⟨((v_lo v) + ((((v_hi v) - (v_lo v)) / 4096) * q.toInt64)), (), rfl, by rfl, by rw [ht]; exact hP, hD⟩, hS.F ht⟩) hS.2.2 dX1_middle_21

set_option maxHeartbeats 4000000 in
set_option maxRecDepth 100000 in
theorem c_X1_narrow (l : Launch) (D : va_G) (cI cL cM : ClassId) (A : Nat → Prop) (h0 : Nat) (v : Iv) (z : Int32) (x : Int64) : mV l yX1_narrow wsX1_narrow ({ frames := 0, cells := 0, slots := 0, locals := 0 }) D (tB cI cL cM) A [.ref h0, .int z, .long x] (ivW h0 v) (ivW h0 (v_nar v z x)) := by
  refine Met.ofW (cc := cX1_narrow) (maxL := 4) (ret := none) (by decide) rfl ?_
  intro p e s m args below meth c s₁ B hml hv
  obtain ⟨rfl, hP, hE, hD, hA⟩ := hv
  have hK := hE.1
  have hx := B.exec
  have hb := B.bytes
  have hr := B.returns
  have hts := atoms_spec (ws := wsX1_narrow) B.pre
  have hown : s.vm.findClass RX1 = some m.cls := findClass_of_methodNamed B.named
  have hlocks := B.notSynchronized
  have hS : va_S A s.heap s.heap [] := va_S.rf
  have hl := lv_entry ([.ref h0, .int z, .long x]) (n := 4) (Nat.le_of_ble_eq_true rfl)
  rw [lg_entry_eq]
  generalize (lg_sl ([.ref h0, .int z, .long x]) ++ List.replicate (4 - (lg_sl ([.ref h0, .int z, .long x])).length) Slot.unset).toArray = ls at hl ⊢
  have hl : lv_has ls 4 [(0, .ref h0), (1, .int z), (2, .long x)] := hl
  refine lv_iload_n hx hb dX1_narrow_0 rfl (lv_at hl 1 rfl) ?_
  refine lv_if_eq (tgt := 12) hx hb dX1_narrow_1 (by decide) (fun c_1 => ?_) (fun c_1 => ?_)
  · replace c_1 : z = (0 : Int32) := c_1
    refine lv_aload_n hx hb dX1_narrow_12 rfl (lv_at hl 0 rfl) ?_
    refine lv_lload_n hx hb dX1_narrow_13 rfl (lv_at hl 2 rfl) ?_
    refine lv_lconst (v := 1) hx hb dX1_narrow_14 (by decide) ?_
    refine lv_ladd hx hb dX1_narrow_15 ?_
    refine va_put (D := D) (ci := 1) (v := .long (x + 1)) (ty := .long) (C := RX1) (T := TX1) (N := 4) hx hb hts (fun _ h => List.mem_cons_of_mem _ (List.mem_append_right _ h)) tyX1 tyX1_ok nmX1 hown hK hP hD hS 0 rfl rfl 0 (by decide) (hts _ (List.mem_of_getElem? (i := 2) rfl)) (fun _ h9 => h9) rfl (by decide +kernel) rfl rfl (Nat.le_of_ble_eq_true rfl) dX1_narrow_16 (fun H locs hP hD hS => ?_)
    have hP : va_P D vwCl (ivW h0 (vs_lo v (x + 1))) H := hP
    have hD : va_D A (ivW h0 (vs_lo v (x + 1))) := hD
    have hw9 : (ivW h0 (vs_lo v (x + 1))) = (ivW h0 (v_nar v z x)) := by (try unfold v_nar); (try rw [if_pos c_1]); try rfl
    rw [hw9] at hP hD
    exact W.vret hx hb hr (fun t ht hW => ⟨⟨(), rfl, trivial, by rw [ht]; exact hP, hD⟩, hS.F ht⟩) hS.2.2 dX1_narrow_19
  · replace c_1 : ¬ z = (0 : Int32) := c_1
    refine lv_aload_n hx hb dX1_narrow_4 rfl (lv_at hl 0 rfl) ?_
    refine lv_lload_n hx hb dX1_narrow_5 rfl (lv_at hl 2 rfl) ?_
    refine va_put (D := D) (ci := 1) (v := .long x) (ty := .long) (C := RX1) (T := TX1) (N := 4) hx hb hts (fun _ h => List.mem_cons_of_mem _ (List.mem_append_right _ h)) tyX1 tyX1_ok nmX1 hown hK hP hD hS 0 rfl rfl 1 (by decide) (hts _ (List.mem_of_getElem? (i := 1) rfl)) (fun _ h9 => h9) rfl (by decide +kernel) rfl rfl (Nat.le_of_ble_eq_true rfl) dX1_narrow_6 (fun H locs hP hD hS => ?_)
    have hP : va_P D vwCl (ivW h0 (vs_hi v x)) H := hP
    have hD : va_D A (ivW h0 (vs_hi v x)) := hD
    refine lv_goto (tgt := 19) hx hb dX1_narrow_9 (by decide) ?_
    have hw9 : (ivW h0 (vs_hi v x)) = (ivW h0 (v_nar v z x)) := by (try unfold v_nar); (try rw [if_neg c_1]); try rfl
    rw [hw9] at hP hD
    exact W.vret hx hb hr (fun t ht hW => ⟨⟨(), rfl, trivial, by rw [ht]; exact hP, hD⟩, hS.F ht⟩) hS.2.2 dX1_narrow_19

set_option maxHeartbeats 4000000 in
set_option maxRecDepth 100000 in
theorem c_X1_isSettled (l : Launch) (D : va_G) (cI cL cM : ClassId) (A : Nat → Prop) (h0 : Nat) (v : Iv) : mI l yX1_isSettled wsX1_isSettled ({ frames := 1, cells := 0, slots := 0, locals := 21 }) D (tB cI cL cM) A [.ref h0] (ivW h0 v) (v_set v) (ivW h0 v) := by
  refine Met.ofW (cc := cX1_isSettled) (maxL := 1) (ret := (some .boolean)) (by decide) rfl ?_
  intro p e s m args below meth c s₁ B hml hv
  obtain ⟨rfl, hP, hE, hD, hA⟩ := hv
  have hK := hE.1
  have hx := B.exec
  have hb := B.bytes
  have hr := B.returns
  have hts := atoms_spec (ws := wsX1_isSettled) B.pre
  have hown : s.vm.findClass RX1 = some m.cls := findClass_of_methodNamed B.named
  have hlocks := B.notSynchronized
  have hS : va_S A s.heap s.heap [] := va_S.rf
  have hl := lv_entry ([.ref h0]) (n := 1) (Nat.le_of_ble_eq_true rfl)
  rw [lg_entry_eq]
  generalize (lg_sl ([.ref h0]) ++ List.replicate (1 - (lg_sl ([.ref h0])).length) Slot.unset).toArray = ls at hl ⊢
  have hl : lv_has ls 1 [(0, .ref h0)] := hl
  refine lv_aload_n hx hb dX1_isSettled_0 rfl (lv_at hl 0 rfl) ?_
  refine va_get (D := D) (ci := 1) (v := .long (v_lo v)) (C := RX1) (T := TX1) (N := 4) hx hb hts (fun _ h => List.mem_cons_of_mem _ (List.mem_append_right _ h)) hown hK hP 0 rfl rfl 0 (by decide) (hts _ (List.mem_of_getElem? (i := 1) rfl)) (fun _ h9 => h9) rfl dX1_isSettled_1 ?_
  refine kI (rS (As := [.long (v_lo v)]) (rest := []) ⟨hx, hb, hml, hown, hts⟩ (c_X1_topByte l D cI cL cM _ (v_lo v) ) (va_cwS 1 hts gX1_isSettled_X1_topByte rfl rfl rfl (by decide +kernel) ⟨(Nat.le_of_ble_eq_true rfl), (Nat.le_of_ble_eq_true rfl)⟩) hE hP hD [] rfl rfl rfl hl.1 rfl (Nat.le_of_ble_eq_true rfl) dX1_isSettled_4 ⟨(Nat.le_of_ble_eq_true rfl), (Nat.le_of_ble_eq_true rfl)⟩) hP hD hS hA (is := []) rfl rfl (fun H locs hP hD hS => ?_)
  rw [putW_nil] at hP hD
  have hP : va_P D vwCl (ivW h0 v) H := hP
  have hD : va_D A (ivW h0 v) := hD
  refine lv_aload_n hx hb dX1_isSettled_7 rfl (lv_at hl 0 rfl) ?_
  refine va_get (D := D) (ci := 1) (v := .long (v_hi v)) (C := RX1) (T := TX1) (N := 4) hx hb hts (fun _ h => List.mem_cons_of_mem _ (List.mem_append_right _ h)) hown hK hP 0 rfl rfl 1 (by decide) (hts _ (List.mem_of_getElem? (i := 2) rfl)) (fun _ h9 => h9) rfl dX1_isSettled_8 ?_
  refine kI (rS (As := [.long (v_hi v)]) (rest := [.int (tpb (v_lo v))]) ⟨hx, hb, hml, hown, hts⟩ (c_X1_topByte l D cI cL cM _ (v_hi v) ) (va_cwS 1 hts gX1_isSettled_X1_topByte rfl rfl rfl (by decide +kernel) ⟨(Nat.le_of_ble_eq_true rfl), (Nat.le_of_ble_eq_true rfl)⟩) hE hP hD [] rfl rfl rfl hl.1 rfl (Nat.le_of_ble_eq_true rfl) dX1_isSettled_11 ⟨(Nat.le_of_ble_eq_true rfl), (Nat.le_of_ble_eq_true rfl)⟩) hP hD hS hA (is := []) rfl rfl (fun H locs hP hD hS => ?_)
  rw [putW_nil] at hP hD
  have hP : va_P D vwCl (ivW h0 v) H := hP
  have hD : va_D A (ivW h0 v) := hD
  refine lv_icmp_ne (tgt := 21) hx hb dX1_isSettled_14 (by decide) (fun c_1 => ?_) (fun c_1 => ?_)
  · replace c_1 : ¬ (tpb (v_lo v)) = (tpb (v_hi v)) := c_1
    refine lv_iconst (v := 0) hx hb dX1_isSettled_21 (by decide) ?_
    exact W.zret (v := 0) hx hb hr rfl (fun t ht hW => ⟨⟨0, (), rfl, by (try unfold v_set); (try rw [if_neg c_1]); try rfl, by rw [ht]; exact hP, hD⟩, hS.F ht⟩) hS.2.2 dX1_isSettled_22
  · replace c_1 : (tpb (v_lo v)) = (tpb (v_hi v)) := c_1
    refine lv_iconst (v := 1) hx hb dX1_isSettled_17 (by decide) ?_
    refine lv_goto (tgt := 22) hx hb dX1_isSettled_18 (by decide) ?_
    exact W.zret (v := 1) hx hb hr rfl (fun t ht hW => ⟨⟨1, (), rfl, by (try unfold v_set); (try rw [if_pos c_1]); try rfl, by rw [ht]; exact hP, hD⟩, hS.F ht⟩) hS.2.2 dX1_isSettled_22

set_option maxHeartbeats 4000000 in
set_option maxRecDepth 100000 in
theorem c_X1_shift (l : Launch) (D : va_G) (cI cL cM : ClassId) (A : Nat → Prop) (h0 : Nat) (v : Iv) : mI l yX1_shift wsX1_shift ({ frames := 1, cells := 0, slots := 0, locals := 21 }) D (tB cI cL cM) A [.ref h0] (ivW h0 v) (tpb (v_lo v)) (ivW h0 (v_shf v)) := by
  refine Met.ofW (cc := cX1_shift) (maxL := 2) (ret := (some .int)) (by decide) rfl ?_
  intro p e s m args below meth c s₁ B hml hv
  obtain ⟨rfl, hP, hE, hD, hA⟩ := hv
  have hK := hE.1
  have hx := B.exec
  have hb := B.bytes
  have hr := B.returns
  have hts := atoms_spec (ws := wsX1_shift) B.pre
  have hown : s.vm.findClass RX1 = some m.cls := findClass_of_methodNamed B.named
  have hlocks := B.notSynchronized
  have hS : va_S A s.heap s.heap [] := va_S.rf
  have hl := lv_entry ([.ref h0]) (n := 2) (Nat.le_of_ble_eq_true rfl)
  rw [lg_entry_eq]
  generalize (lg_sl ([.ref h0]) ++ List.replicate (2 - (lg_sl ([.ref h0])).length) Slot.unset).toArray = ls at hl ⊢
  have hl : lv_has ls 2 [(0, .ref h0)] := hl
  refine lv_aload_n hx hb dX1_shift_0 rfl (lv_at hl 0 rfl) ?_
  refine va_get (D := D) (ci := 1) (v := .long (v_lo v)) (C := RX1) (T := TX1) (N := 4) hx hb hts (fun _ h => List.mem_cons_of_mem _ (List.mem_append_right _ h)) hown hK hP 0 rfl rfl 0 (by decide) (hts _ (List.mem_of_getElem? (i := 1) rfl)) (fun _ h9 => h9) rfl dX1_shift_1 ?_
  refine kI (rS (As := [.long (v_lo v)]) (rest := []) ⟨hx, hb, hml, hown, hts⟩ (c_X1_topByte l D cI cL cM _ (v_lo v) ) (va_cwS 1 hts gX1_shift_X1_topByte rfl rfl rfl (by decide +kernel) ⟨(Nat.le_of_ble_eq_true rfl), (Nat.le_of_ble_eq_true rfl)⟩) hE hP hD [] rfl rfl rfl hl.1 rfl (Nat.le_of_ble_eq_true rfl) dX1_shift_4 ⟨(Nat.le_of_ble_eq_true rfl), (Nat.le_of_ble_eq_true rfl)⟩) hP hD hS hA (is := []) rfl rfl (fun H locs hP hD hS => ?_)
  rw [putW_nil] at hP hD
  have hP : va_P D vwCl (ivW h0 v) H := hP
  have hD : va_D A (ivW h0 v) := hD
  refine lv_istore_n (lv' := [(1, .int (tpb (v_lo v))), (0, .ref h0)]) hx hb dX1_shift_7 rfl hl (by decide) rfl (fun ls hl => ?_)
  refine lv_aload_n hx hb dX1_shift_8 rfl (lv_at hl 1 rfl) ?_
  refine lv_aload_n hx hb dX1_shift_9 rfl (lv_at hl 1 rfl) ?_
  refine va_get (D := D) (ci := 1) (v := .long (v_lo v)) (C := RX1) (T := TX1) (N := 4) hx hb hts (fun _ h => List.mem_cons_of_mem _ (List.mem_append_right _ h)) hown hK hP 0 rfl rfl 0 (by decide) (hts _ (List.mem_of_getElem? (i := 1) rfl)) (fun _ h9 => h9) rfl dX1_shift_10 ?_
  refine lv_bipush (v := 8) hx hb dX1_shift_13 (by decide) ?_
  refine lv_lshl hx hb dX1_shift_15 rfl ?_
  refine lv_ldc2 hx hb hown (hts _ (List.mem_of_getElem? (i := 2) rfl)) dX1_shift_16 ?_
  refine lv_land hx hb dX1_shift_19 ?_
  refine va_put (D := D) (ci := 1) (v := .long (((v_lo v) <<< ((8 : Int32).toInt64 &&& 63)) &&& 4294967295)) (ty := .long) (C := RX1) (T := TX1) (N := 4) hx hb hts (fun _ h => List.mem_cons_of_mem _ (List.mem_append_right _ h)) tyX1 tyX1_ok nmX1 hown hK hP hD hS 0 rfl rfl 0 (by decide) (hts _ (List.mem_of_getElem? (i := 1) rfl)) (fun _ h9 => h9) rfl (by decide +kernel) rfl rfl (Nat.le_of_ble_eq_true rfl) dX1_shift_20 (fun H locs hP hD hS => ?_)
  have hP : va_P D vwCl (ivW h0 (vs_lo v (((v_lo v) <<< ((8 : Int32).toInt64 &&& 63)) &&& 4294967295))) H := hP
  have hD : va_D A (ivW h0 (vs_lo v (((v_lo v) <<< ((8 : Int32).toInt64 &&& 63)) &&& 4294967295))) := hD
  refine lv_aload_n hx hb dX1_shift_23 rfl (lv_at hl 1 rfl) ?_
  refine lv_aload_n hx hb dX1_shift_24 rfl (lv_at hl 1 rfl) ?_
  refine va_get (D := D) (ci := 1) (v := .long (v_hi v)) (C := RX1) (T := TX1) (N := 4) hx hb hts (fun _ h => List.mem_cons_of_mem _ (List.mem_append_right _ h)) hown hK hP 0 rfl rfl 1 (by decide) (hts _ (List.mem_of_getElem? (i := 3) rfl)) (fun _ h9 => h9) rfl dX1_shift_25 ?_
  refine lv_bipush (v := 8) hx hb dX1_shift_28 (by decide) ?_
  refine lv_lshl hx hb dX1_shift_30 rfl ?_
  refine lv_ldc2 hx hb hown (hts _ (List.mem_of_getElem? (i := 2) rfl)) dX1_shift_31 ?_
  refine lv_land hx hb dX1_shift_34 ?_
  refine lv_ldc2 hx hb hown (hts _ (List.mem_of_getElem? (i := 4) rfl)) dX1_shift_35 ?_
  refine lv_ladd hx hb dX1_shift_38 ?_
  refine va_put (D := D) (ci := 1) (v := .long ((((v_hi v) <<< ((8 : Int32).toInt64 &&& 63)) &&& 4294967295) + 255)) (ty := .long) (C := RX1) (T := TX1) (N := 4) hx hb hts (fun _ h => List.mem_cons_of_mem _ (List.mem_append_right _ h)) tyX1 tyX1_ok nmX1 hown hK hP hD hS 0 rfl rfl 1 (by decide) (hts _ (List.mem_of_getElem? (i := 3) rfl)) (fun _ h9 => h9) rfl (by decide +kernel) rfl rfl (Nat.le_of_ble_eq_true rfl) dX1_shift_39 (fun H locs hP hD hS => ?_)
  have hP : va_P D vwCl (ivW h0 (vs_hi (vs_lo v (((v_lo v) <<< ((8 : Int32).toInt64 &&& 63)) &&& 4294967295)) ((((v_hi v) <<< ((8 : Int32).toInt64 &&& 63)) &&& 4294967295) + 255))) H := hP
  have hD : va_D A (ivW h0 (vs_hi (vs_lo v (((v_lo v) <<< ((8 : Int32).toInt64 &&& 63)) &&& 4294967295)) ((((v_hi v) <<< ((8 : Int32).toInt64 &&& 63)) &&& 4294967295) + 255))) := hD
  refine lv_iload_n hx hb dX1_shift_42 rfl (lv_at hl 0 rfl) ?_
  have hw9 : (ivW h0 (vs_hi (vs_lo v (((v_lo v) <<< ((8 : Int32).toInt64 &&& 63)) &&& 4294967295)) ((((v_hi v) <<< ((8 : Int32).toInt64 &&& 63)) &&& 4294967295) + 255))) = (ivW h0 (v_shf v)) := by rfl
  rw [hw9] at hP hD
  exact W.iret (v := tpb (v_lo v)) hx hb hr (fun t ht hW => ⟨⟨(tpb (v_lo v)), (), rfl, by rfl, by rw [ht]; exact hP, hD⟩, hS.F ht⟩) hS.2.2 dX1_shift_43
