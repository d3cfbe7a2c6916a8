/-! ===== Arrays.fill, the interval with a row, models ===== -/
abbrev Ar : Type := (Nat → Int32)
def y_f (u : Ar) : Nat → Int32 := u
def ys_f (u : Ar) (x : Nat → Int32) : Ar := (x)
theorem y_f_f (u : Ar) (x : Nat → Int32) : y_f (ys_f u x) = x := rfl
abbrev Al : Type := (Nat → Int64)
def z_f (u : Al) : Nat → Int64 := u
def zs_f (u : Al) (x : Nat → Int64) : Al := (x)
theorem z_f_f (u : Al) (x : Nat → Int64) : z_f (zs_f u x) = x := rfl
abbrev IR : Type := Iv × Row
def i_v (u : IR) : Iv := u.1
def is_v (u : IR) (x : Iv) : IR := (x, u.2)
def i_r (u : IR) : Row := u.2
def is_r (u : IR) (x : Row) : IR := (u.1, x)
theorem i_v_v (u : IR) (x : Iv) : i_v (is_v u x) = x := rfl
theorem i_v_r (u : IR) (x : Row) : i_v (is_r u x) = i_v u := rfl
theorem i_r_v (u : IR) (x : Iv) : i_r (is_v u x) = i_r u := rfl
theorem i_r_r (u : IR) (x : Row) : i_r (is_r u x) = x := rfl
def aiW (cI : ClassId) (h n : Nat) (u : Ar) : va_W := [(h, .inl (cI, n, .inl (y_f u)))]
def alW (cL : ClassId) (h n : Nat) (u : Al) : va_W := [(h, .inl (cL, n, .inr (.inl (z_f u))))]
def irW (cI : ClassId) (h0 g0 g1 lim : Nat) (u : IR) : va_W := ivW h0 (i_v u) ++ rowW cI g0 g1 lim (i_r u)
theorem irW_all (cI : ClassId) (h0 g0 g1 lim : Nat) (u u' : IR) : putW (irW cI h0 g0 g1 lim u) [0, 1, 2] (irW cI h0 g0 g1 lim u') = irW cI h0 g0 g1 lim u' := rfl
theorem irW_row (cI : ClassId) (h0 g0 g1 lim : Nat) (u : IR) (r : Row) : putW (irW cI h0 g0 g1 lim u) [1, 2] (rowW cI g0 g1 lim r) = irW cI h0 g0 g1 lim (is_r u r) := rfl
theorem is_r_self (u : IR) : is_r u (i_r u) = u := rfl
theorem moW_all (cI cL : ClassId) (h0 h1 h2 h3 : Nat) (o o' : Mo) : putW (moW cI cL h0 h1 h2 h3 o) [0, 1, 2, 3] (moW cI cL h0 h1 h2 h3 o') = moW cI cL h0 h1 h2 h3 o' := rfl
theorem moW_co (cI cL : ClassId) (h0 h1 h2 h3 : Nat) (o : Mo) (f : Ar) : putW (moW cI cL h0 h1 h2 h3 o) [1] (aiW cI h1 512 f) = moW cI cL h0 h1 h2 h3 (os_co o f) := rfl
theorem moW_se (cI cL : ClassId) (h0 h1 h2 h3 : Nat) (o : Mo) (f : Al) : putW (moW cI cL h0 h1 h2 h3 o) [2] (alW cL h2 512 f) = moW cI cL h0 h1 h2 h3 (os_se o f) := rfl
theorem moW_we (cI cL : ClassId) (h0 h1 h2 h3 : Nat) (o : Mo) (f : Ar) : putW (moW cI cL h0 h1 h2 h3 o) [3] (aiW cI h3 8 f) = moW cI cL h0 h1 h2 h3 (os_we o f) := rfl
/-- the first n places v -/
def fiI (n : Nat) (v : Int32) (f : Nat → Int32) : Nat → Int32 := fun j => if j < n then v else f j
def fiL (n : Nat) (v : Int64) (f : Nat → Int64) : Nat → Int64 := fun j => if j < n then v else f j
theorem fiI_0 (v : Int32) (f : Nat → Int32) : fiI 0 v f = f := by funext j; simp [fiI]
theorem fiL_0 (v : Int64) (f : Nat → Int64) : fiL 0 v f = f := by funext j; simp [fiL]
theorem fiI_s (n : Nat) (v : Int32) (f : Nat → Int32) : upd (fiI n v f) n v = fiI (n + 1) v f := by
  funext j
  unfold upd fiI
  by_cases h1 : j = n
  · rw [if_pos h1, if_pos (by omega)]
  · rw [if_neg h1]
    by_cases h2 : j < n
    · rw [if_pos h2, if_pos (by omega)]
    · rw [if_neg h2, if_neg (by omega)]
theorem fiL_s (n : Nat) (v : Int64) (f : Nat → Int64) : vp_updL (fiL n v f) n v = fiL (n + 1) v f := by
  funext j
  unfold vp_updL fiL
  by_cases h1 : j = n
  · rw [if_pos h1, if_pos (by omega)]
  · rw [if_neg h1]
    by_cases h2 : j < n
    · rw [if_pos h2, if_pos (by omega)]
    · rw [if_neg h2, if_neg (by omega)]

set_option maxHeartbeats 4000000 in
set_option maxRecDepth 100000 in
theorem c_J7_fill_53178 (l : Launch) (D : va_G) (cI cL cM : ClassId) (A : Nat → Prop) (h n : Nat) (u : Ar) (v : Int32) (hn : n < 2147483648) : mV l yJ7_fill_53178 wsJ7_fill_53178 ({ frames := 0, cells := 0, slots := 0, locals := 0 }) D (tB cI cL cM) A [.ref h, .int v] (aiW cI h n u) (aiW cI h n (fiI n v u)) := by
  refine Met.ofW (cc := cJ7_fill_53178) (maxL := 4) (ret := none) (by decide) rfl ?_
  intro p e s m args below meth c s₁ B hml hv
  obtain ⟨rfl, hP, hE, hD, hA⟩ := hv
  have hK := hE.1
  have hx := B.exec
  have hb := B.bytes
  have hr := B.returns
  have hts := atoms_spec (ws := wsJ7_fill_53178) B.pre
  have hown : s.vm.findClass RJ7 = some m.cls := findClass_of_methodNamed B.named
  have hlocks := B.notSynchronized
  have hS : va_S A s.heap s.heap [] := va_S.rf
  have hl := lv_entry ([.ref h, .int v]) (n := 4) (Nat.le_of_ble_eq_true rfl)
  rw [lg_entry_eq]
  generalize (lg_sl ([.ref h, .int v]) ++ List.replicate (4 - (lg_sl ([.ref h, .int v])).length) Slot.unset).toArray = ls at hl ⊢
  have hl : lv_has ls 4 [(0, .ref h), (1, .int v)] := hl
  refine lv_iconst (v := 0) hx hb dJ7_fill_53178_0 (by decide) ?_
  refine lv_istore_n (lv' := [(2, .int 0), (0, .ref h), (1, .int v)]) hx hb dJ7_fill_53178_1 rfl hl (by decide) rfl (fun ls hl => ?_)
  refine lv_aload_n hx hb dJ7_fill_53178_2 rfl (lv_at hl 1 rfl) ?_
  refine va_alen (v := nI n) hx hb hK hP 0 0 rfl rfl rfl dJ7_fill_53178_3 ?_
  refine lv_istore_n (lv' := [(3, .int (nI n)), (2, .int 0), (0, .ref h), (1, .int v)]) hx hb dJ7_fill_53178_4 rfl hl (by decide) rfl (fun ls hl => ?_)
  have lp : ∀ (n9 : Nat) (i : Nat) (hi : i ≤ n), n - i < n9 → ∀ (H : Heap) (locs : List Loc), va_P D vwCl (aiW cI h n (ys_f u (fiI i v (y_f u)))) H → va_D A (aiW cI h n (ys_f u (fiI i v (y_f u)))) → va_S A s.heap H locs → ∀ (ls : Array Slot), lv_has ls 4 [(2, .int (nI i)), (3, .int (nI n)), (0, .ref h), (1, .int v)] → W p l e (headSpec wsJ7_fill_53178 ({ frames := 0, cells := 0, slots := 0, locals := 0 })).room s m (([.ref h, .int v] : List Value).toArray) below meth c H locs 0 0 (MQ below (va_Qv (fun (_ : Unit) => True) (fun _ t => hq D A (aiW cI h n (fiI n v u)) t) A) (([.ref h, .int v] : List Value).toArray) s 0 0 A) (F0 m 5 ls []) := by
    intro n9
    induction n9 with
    | zero => intro i hi hm9; exact absurd hm9 (Nat.not_lt_zero _)
    | succ n9 ih_lp =>
      intro i hi hm9 H locs hP hD hS ls hl
      refine lv_iload_n hx hb dJ7_fill_53178_5 rfl (lv_at hl 0 rfl) ?_
      refine lv_iload_n hx hb dJ7_fill_53178_6 rfl (lv_at hl 1 rfl) ?_
      refine lv_icmp_ge (tgt := 20) hx hb dJ7_fill_53178_7 (by decide) (fun c_1 => ?_) (fun c_1 => ?_)
      · replace c_1 : (nI n) ≤ (nI i) := c_1
        try simp only [Int32.lt_iff_toInt_lt, Int32.le_iff_toInt_le, tI0] at c_1
        have hin : i = n := by have h8 := nIT hi hn; have h9 := nIT (Nat.le_refl n) hn; rw [h8, h9] at c_1; omega
        have hw9 : (aiW cI h n (ys_f u (fiI i v (y_f u)))) = (aiW cI h n (fiI n v u)) := by rw [hin]; rfl
        rw [hw9] at hP hD
        exact W.vret hx hb hr (fun t ht hW => ⟨⟨(), rfl, trivial, by rw [ht]; exact hP, hD⟩, hS.F ht⟩) hS.2.2 dJ7_fill_53178_20
      · replace c_1 : ¬ (nI n) ≤ (nI i) := c_1
        try simp only [Int32.lt_iff_toInt_lt, Int32.le_iff_toInt_le, tI0] at c_1
        have hin : i < n := by have h8 := nIT hi hn; have h9 := nIT (Nat.le_refl n) hn; rw [h8, h9] at c_1; omega
        refine lv_aload_n hx hb dJ7_fill_53178_10 rfl (lv_at hl 2 rfl) ?_
        refine lv_iload_n hx hb dJ7_fill_53178_11 rfl (lv_at hl 0 rfl) ?_
        refine lv_iload_n hx hb dJ7_fill_53178_12 rfl (lv_at hl 3 rfl) ?_
        refine istN hx hb hK hP hD hS 0 0 rfl rfl i (hin) (hn) dJ7_fill_53178_13 (fun H locs hP hD hS => ?_)
        have hP : va_P D vwCl (aiW cI h n (ys_f u (upd (fiI i v (y_f u)) i v))) H := hP
        have hD : va_D A (aiW cI h n (ys_f u (upd (fiI i v (y_f u)) i v))) := hD
        refine lv_iinc (v := nI (i + 1)) (lv' := [(2, .int (nI (i + 1))), (3, .int (nI n)), (0, .ref h), (1, .int v)]) hx hb dJ7_fill_53178_14 hl (k := 0) rfl (nI_1 _) (by decide) rfl (fun ls hl => ?_)
        refine lv_goto (tgt := 5) hx hb dJ7_fill_53178_17 (by decide) ?_
        rw [fiI_s] at hP hD
        exact ih_lp (i + 1) (by omega) (by omega) _ _ hP hD hS ls (lv_sub hl [0, 1, 2, 3] rfl)
  have e0 : (aiW cI h n u) = (aiW cI h n (ys_f u (fiI 0 v (y_f u)))) := by rw [fiI_0]; rfl
  rw [e0] at hP hD
  exact lp _ 0 (Nat.zero_le n) (Nat.lt_succ_self _) _ _ hP hD hS ls (lv_sub hl [1, 0, 2, 3] rfl)

set_option maxHeartbeats 4000000 in
set_option maxRecDepth 100000 in
theorem c_J7_fill_d0a16 (l : Launch) (D : va_G) (cI cL cM : ClassId) (A : Nat → Prop) (h n : Nat) (u : Al) (v : Int64) (hn : n < 2147483648) : mV l yJ7_fill_d0a16 wsJ7_fill_d0a16 ({ frames := 0, cells := 0, slots := 0, locals := 0 }) D (tB cI cL cM) A [.ref h, .long v] (alW cL h n u) (alW cL h n (fiL n v u)) := by
  refine Met.ofW (cc := cJ7_fill_d0a16) (maxL := 5) (ret := none) (by decide) rfl ?_
  intro p e s m args below meth c s₁ B hml hv
  obtain ⟨rfl, hP, hE, hD, hA⟩ := hv
  have hK := hE.1
  have hx := B.exec
  have hb := B.bytes
  have hr := B.returns
  have hts := atoms_spec (ws := wsJ7_fill_d0a16) B.pre
  have hown : s.vm.findClass RJ7 = some m.cls := findClass_of_methodNamed B.named
  have hlocks := B.notSynchronized
  have hS : va_S A s.heap s.heap [] := va_S.rf
  have hl := lv_entry ([.ref h, .long v]) (n := 5) (Nat.le_of_ble_eq_true rfl)
  rw [lg_entry_eq]
  generalize (lg_sl ([.ref h, .long v]) ++ List.replicate (5 - (lg_sl ([.ref h, .long v])).length) Slot.unset).toArray = ls at hl ⊢
  have hl : lv_has ls 5 [(0, .ref h), (1, .long v)] := hl
  refine lv_iconst (v := 0) hx hb dJ7_fill_d0a16_0 (by decide) ?_
  refine lv_istore_n (lv' := [(3, .int 0), (0, .ref h), (1, .long v)]) hx hb dJ7_fill_d0a16_1 rfl hl (by decide) rfl (fun ls hl => ?_)
  refine lv_aload_n hx hb dJ7_fill_d0a16_2 rfl (lv_at hl 1 rfl) ?_
  refine va_alen (v := nI n) hx hb hK hP 0 1 rfl rfl rfl dJ7_fill_d0a16_3 ?_
  refine lv_istore (lv' := [(4, .int (nI n)), (3, .int 0), (0, .ref h), (1, .long v)]) hx hb dJ7_fill_d0a16_4 hl (by decide) rfl (fun ls hl => ?_)
  have lp : ∀ (n9 : Nat) (i : Nat) (hi : i ≤ n), n - i < n9 → ∀ (H : Heap) (locs : List Loc), va_P D vwCl (alW cL h n (zs_f u (fiL i v (z_f u)))) H → va_D A (alW cL h n (zs_f u (fiL i v (z_f u)))) → va_S A s.heap H locs → ∀ (ls : Array Slot), lv_has ls 5 [(3, .int (nI i)), (4, .int (nI n)), (0, .ref h), (1, .long v)] → W p l e (headSpec wsJ7_fill_d0a16 ({ frames := 0, cells := 0, slots := 0, locals := 0 })).room s m (([.ref h, .long v] : List Value).toArray) below meth c H locs 0 0 (MQ below (va_Qv (fun (_ : Unit) => True) (fun _ t => hq D A (alW cL h n (fiL n v u)) t) A) (([.ref h, .long v] : List Value).toArray) s 0 0 A) (F0 m 6 ls []) := by
    intro n9
    induction n9 with
    | zero => intro i hi hm9; exact absurd hm9 (Nat.not_lt_zero _)
    | succ n9 ih_lp =>
      intro i hi hm9 H locs hP hD hS ls hl
      refine lv_iload_n hx hb dJ7_fill_d0a16_6 rfl (lv_at hl 0 rfl) ?_
      refine lv_iload hx hb dJ7_fill_d0a16_7 (lv_at hl 1 rfl) ?_
      refine lv_icmp_ge (tgt := 22) hx hb dJ7_fill_d0a16_9 (by decide) (fun c_1 => ?_) (fun c_1 => ?_)
      · replace c_1 : (nI n) ≤ (nI i) := c_1
        try simp only [Int32.lt_iff_toInt_lt, Int32.le_iff_toInt_le, tI0] at c_1
        have hin : i = n := by have h8 := nIT hi hn; have h9 := nIT (Nat.le_refl n) hn; rw [h8, h9] at c_1; omega
        have hw9 : (alW cL h n (zs_f u (fiL i v (z_f u)))) = (alW cL h n (fiL n v u)) := by rw [hin]; rfl
        rw [hw9] at hP hD
        exact W.vret hx hb hr (fun t ht hW => ⟨⟨(), rfl, trivial, by rw [ht]; exact hP, hD⟩, hS.F ht⟩) hS.2.2 dJ7_fill_d0a16_22
      · replace c_1 : ¬ (nI n) ≤ (nI i) := c_1
        try simp only [Int32.lt_iff_toInt_lt, Int32.le_iff_toInt_le, tI0] at c_1
        have hin : i < n := by have h8 := nIT hi hn; have h9 := nIT (Nat.le_refl n) hn; rw [h8, h9] at c_1; omega
        refine lv_aload_n hx hb dJ7_fill_d0a16_12 rfl (lv_at hl 2 rfl) ?_
        refine lv_iload_n hx hb dJ7_fill_d0a16_13 rfl (lv_at hl 0 rfl) ?_
        refine lv_lload_n hx hb dJ7_fill_d0a16_14 rfl (lv_at hl 3 rfl) ?_
        refine lstN hx hb hK hP hD hS 0 1 rfl rfl i (hin) (hn) dJ7_fill_d0a16_15 (fun H locs hP hD hS => ?_)
        have hP : va_P D vwCl (alW cL h n (zs_f u (vp_updL (fiL i v (z_f u)) i v))) H := hP
        have hD : va_D A (alW cL h n (zs_f u (vp_updL (fiL i v (z_f u)) i v))) := hD
        refine lv_iinc (v := nI (i + 1)) (lv' := [(3, .int (nI (i + 1))), (4, .int (nI n)), (0, .ref h), (1, .long v)]) hx hb dJ7_fill_d0a16_16 hl (k := 0) rfl (nI_1 _) (by decide) rfl (fun ls hl => ?_)
        refine lv_goto (tgt := 6) hx hb dJ7_fill_d0a16_19 (by decide) ?_
        rw [fiL_s] at hP hD
        exact ih_lp (i + 1) (by omega) (by omega) _ _ hP hD hS ls (lv_sub hl [0, 1, 2, 3] rfl)
  have e0 : (alW cL h n u) = (alW cL h n (zs_f u (fiL 0 v (z_f u)))) := by rw [fiL_0]; rfl
  rw [e0] at hP hD
  exact lp _ 0 (Nat.zero_le n) (Nat.lt_succ_self _) _ _ hP hD hS ls (lv_sub hl [1, 0, 2, 3] rfl)
