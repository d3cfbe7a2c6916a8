/-! ===== digest, leader, differences, feed, fill ===== -/
theorem dgq_R {r : Row} {c : Nat} {f : Nat → Int32} (h : RowQ r c f) (hc : c < 2147483648) (d : Int64) : ∀ n, n ≤ c → dgq r d n = dgb f d n
  | 0, _ => rfl
  | n + 1, hn => by
    show dgq r d n * 31 + (q_at r (nI n)).toInt64 = dgb f d n * 31 + (f n).toInt64
    rw [dgq_R h hc d n (by omega), at_in (by rw [h.1]; omega) (by rw [h.1]; exact hc), h.2 n (by omega)]
theorem q_dig_R {r : Row} {c : Nat} {f : Nat → Int32} (h : RowQ r c f) (hc : c < 2147483648) (d : Int64) : q_dig d r = dgb f (d * 31 + (nI c).toInt64) c := by
  unfold q_dig
  rw [h.1]
  exact dgq_R h hc _ c (Nat.le_refl _)
theorem dxw_R {o : Mo} {u : RS} {j : Nat} (h : TbR o u j) (d : Int64) : ∀ n, n ≤ 8 → dxw o n d = dgw u j n d
  | 0, _ => rfl
  | n + 1, hn => by
    show dxw o n d * 31 + (o_we o n).toInt64 = dgw u j n d * 31 + (r_we u (8 * j + n)).toInt64
    rw [dxw_R h d n (by omega), (h.2.1 n (by omega)).1]
theorem dxm_R {k : Pr} {u : RS} (h : PV k u) (d : Int64) : ∀ n, n ≤ k_n k → dxm k d n = dgm u d n
  | 0, _ => rfl
  | n + 1, hn => by
    obtain ⟨⟨⟨s1, s2, s3⟩, -⟩, hT, -⟩ := h.2.2.2.2 n (by omega)
    show dxw (k_mo k n) 8 (((dxm k d n * 31 + (o_od (k_mo k n)).toInt64) * 31 + (o_rt (k_mo k n)).toInt64) * 31 + (o_t (k_mo k n)).toInt64) * 31 + (o_cn (k_mo k n)).toInt64 = dgw u n 8 (((dgm u d n * 31 + (r_od u n).toInt64) * 31 + (r_ra u n).toInt64) * 31 + (r_lo u n).toInt64) * 31 + (r_cl u n).toInt64
    rw [dxm_R h d n (by omega), dxw_R hT _ 8 (Nat.le_refl _), s1, s2, s3, hT.2.2.2]
theorem dig_R {x : Mx} {u : RS} (hp : PR (x_pr x) u) (ht : RowQ (x_tx x) (r_sz u) (r_tx u)) (he : RowQ (x_en x) (r_cs u) (r_cd u)) (hd : RowQ (x_de x) (r_mk u) (r_ou u)) (h1 : r_sz u ≤ 80) (h2 : r_cs u ≤ 2564) (h3 : r_mk u ≤ 80) : x_dig x = r_dig u := by
  unfold x_dig r_dig r_dg3 r_dg2 r_dg1 x_dm
  rw [q_dig_R hd (by omega), q_dig_R he (by omega), q_dig_R ht (by omega), dxm_R hp.1 _ _ (Nat.le_refl _), hp.2.1, hp.2.2, hp.1.2.1.1, hp.1.1.1]
  rfl
/-! leader -/
def Ldr (w : Nat → Int32) (lo N m : Nat) : Prop := lo ≤ m ∧ m < N ∧ (∀ j, lo ≤ j → j < N → (w j).toInt ≤ (w m).toInt) ∧ ∀ j, lo ≤ j → j < m → (w j).toInt < (w m).toInt
theorem hvy_L {w : Nat → Int32} : ∀ n : Nat, (∀ j, j < n + 1 → 0 < (w j).toInt) → ∃ m, hvy w (n + 1) = (nI m, w m) ∧ Ldr w 0 (n + 1) m
  | 0, h => by
    refine ⟨0, ?_, Nat.le_refl _, by omega, fun j _ hj => by rw [show j = 0 by omega]; omega, fun j _ hj => by omega⟩
    show (if w 0 ≤ (0 : Int32) then ((-1 : Int32), (0 : Int32)) else (nI 0, w 0)) = _
    rw [if_neg (fun h9 => by rw [Int32.le_iff_toInt_le, tI0] at h9; have := h 0 (by omega); omega)]
  | n + 1, h => by
    obtain ⟨m, e, h1, h2, h3, h4⟩ := hvy_L n (fun j hj => h j (by omega))
    have e2 : hvy w (n + 1 + 1) = if w (n + 1) ≤ (hvy w (n + 1)).2 then hvy w (n + 1) else (nI (n + 1), w (n + 1)) := rfl
    rw [e2, e]
    by_cases g : w (n + 1) ≤ w m
    · rw [if_pos g]
      rw [Int32.le_iff_toInt_le] at g
      refine ⟨m, rfl, h1, by omega, fun j _ hj => ?_, h4⟩
      rcases Nat.lt_or_ge j (n + 1) with h9 | h9
      · exact h3 j (by omega) h9
      · rw [show j = n + 1 by omega]; exact g
    · rw [if_neg g]
      rw [Int32.le_iff_toInt_le] at g
      refine ⟨n + 1, rfl, by omega, by omega, fun j _ hj => ?_, fun j _ hj => ?_⟩
      · rcases Nat.lt_or_ge j (n + 1) with h9 | h9
        · have := h3 j (by omega) h9; omega
        · rw [show j = n + 1 by omega]; omega
      · have := h3 j (by omega) hj; omega
theorem rld_L {w : Nat → Int32} {N : Nat} (hN : N ≤ 6) : ∀ k m : Nat, Ldr w k N m → ∃ m', rld w k (nI m) = nI m' ∧ Ldr w 0 N m'
  | 0, m, h => ⟨m, rfl, h⟩
  | k + 1, m, ⟨h1, h2, h3, h4⟩ => by
    have e : rl1 w k (nI m) = if w k < w m then nI m else nI k := by
      unfold rl1
      rw [if_neg (nI_pos (by omega)), nI_clamp (by omega)]
    have e2 : rld w (k + 1) (nI m) = rld w k (rl1 w k (nI m)) := rfl
    rw [e2, e]
    by_cases g : w k < w m
    · rw [if_pos g]
      rw [Int32.lt_iff_toInt_lt] at g
      refine rld_L hN k m ⟨by omega, h2, fun j h5 h6 => ?_, fun j h5 h6 => ?_⟩
      · rcases Nat.lt_or_ge k j with h9 | h9
        · exact h3 j (by omega) h6
        · rw [show j = k by omega]; omega
      · rcases Nat.lt_or_ge k j with h9 | h9
        · exact h4 j (by omega) h6
        · rw [show j = k by omega]; exact g
    · rw [if_neg g]
      rw [Int32.lt_iff_toInt_lt] at g
      refine rld_L hN k k ⟨by omega, by omega, fun j h5 h6 => ?_, fun j h5 h6 => by omega⟩
      rcases Nat.lt_or_ge k j with h9 | h9
      · have := h3 j (by omega) h6; omega
      · rw [show j = k by omega]; omega
theorem ldr_one {w : Nat → Int32} {N m m' : Nat} (h : Ldr w 0 N m) (h' : Ldr w 0 N m') : m = m' := by
  obtain ⟨-, h2, h3, h4⟩ := h
  obtain ⟨-, g2, g3, g4⟩ := h'
  rcases Nat.lt_trichotomy m m' with h9 | h9 | h9
  · have := g4 m (by omega) h9; have := h3 m' (by omega) g2; omega
  · exact h9
  · have := h4 m' (by omega) h9; have := g3 m (by omega) h2; omega
theorem ldr_congr {w w' : Nat → Int32} {N m : Nat} (e : ∀ j, j < N → w j = w' j) (h : Ldr w 0 N m) : Ldr w' 0 N m := by
  obtain ⟨h1, h2, h3, h4⟩ := h
  refine ⟨h1, h2, fun j h5 h6 => ?_, fun j h5 h6 => ?_⟩
  · rw [← e j h6, ← e m h2]; exact h3 j h5 h6
  · rw [← e j (by omega), ← e m h2]; exact h4 j h5 h6
theorem leader_R {k : Pr} {u : RS} (h : PV k u) : (hvy (k_w k) (k_n k)).1 = rld (r_w u) (r_n u) (-1) := by
  rw [← h.1.1]
  obtain ⟨n, hn⟩ : ∃ n, k_n k = n := ⟨_, rfl⟩
  have h6 := h.1.2
  rw [hn] at h6 ⊢
  cases n with
  | zero => rfl
  | succ n =>
    obtain ⟨m, e, hm⟩ := hvy_L (w := k_w k) n (fun j hj => by
      obtain ⟨-, a, a1, a2, ea⟩ := wR h (j := j) (by omega)
      rw [ea, nI_toInt (by omega)]; omega)
    have hm' : Ldr (r_w u) 0 (n + 1) m := ldr_congr (fun j hj => (wR h (by omega)).1) hm
    have e1 : rl1 (r_w u) n (-1) = nI n := if_pos (by decide)
    obtain ⟨m', e2, hm2⟩ := rld_L (w := r_w u) (N := n + 1) h6 n n ⟨Nat.le_refl _, by omega, fun j h5 h6 => by rw [show j = n by omega]; omega, fun j h5 h6 => by omega⟩
    have e3 : rld (r_w u) (n + 1) (-1) = rld (r_w u) n (rl1 (r_w u) n (-1)) := rfl
    rw [e3, e1, e2, e, ldr_one hm' hm2]
/-! differences -/
theorem has_in {r : Row} {k : Nat} (h : k < q_c r) (hk : k < 2147483648) : ¬ q_has r (nI k) = 0 := by
  unfold q_has
  rw [if_pos (by rw [nI_toInt hk]; omega)]
  decide
theorem has_out {r : Row} {k : Nat} (h : ¬ k < q_c r) (hk : k < 2147483648) : q_has r (nI k) = 0 := by
  unfold q_has
  rw [if_neg (by rw [nI_toInt hk]; omega)]
theorem dfX_s (x : Mx) (k : Nat) : dfX x (k + 1) = if q_has (x_tx x) (nI k) = 0 then dfX x k + 1 else if q_has (x_de x) (nI k) = 0 then dfX x k + 1 else if q_at (x_tx x) (nI k) = q_at (x_de x) (nI k) then dfX x k else dfX x k + 1 := rfl
theorem diff_A {x : Mx} {u : RS} (ht : RowQ (x_tx x) (r_sz u) (r_tx u)) (hd : RowQ (x_de x) (r_mk u) (r_ou u)) (h1 : r_sz u ≤ 80) (h3 : r_mk u ≤ 80) : ∀ k, k ≤ min (r_sz u) (r_mk u) → dfR u k = dfR u 0 + dfX x k
  | 0, _ => by show dfR u 0 = dfR u 0 + 0; rw [Int32.add_zero]
  | k + 1, hk => by
    have hk1 : k < r_sz u := by omega
    have hk2 : k < r_mk u := by omega
    have e : dfR u (k + 1) = dfR u k + (if r_tx u k = r_ou u k then 0 else 1) := rfl
    rw [e, dfX_s, diff_A ht hd h1 h3 k (by omega), if_neg (has_in (by rw [ht.1]; exact hk1) (by omega)), if_neg (has_in (by rw [hd.1]; exact hk2) (by omega)), at_in (by rw [ht.1]; exact hk1) (by rw [ht.1]; omega), at_in (by rw [hd.1]; exact hk2) (by rw [hd.1]; omega), ht.2 k hk1, hd.2 k hk2]
    by_cases g : r_tx u k = r_ou u k
    · rw [if_pos g, if_pos g, Int32.add_zero]
    · rw [if_neg g, if_neg g, Int32.add_assoc]
theorem diff_B {x : Mx} {u : RS} (ht : RowQ (x_tx x) (r_sz u) (r_tx u)) (hd : RowQ (x_de x) (r_mk u) (r_ou u)) (h1 : r_sz u ≤ 80) (h3 : r_mk u ≤ 80) : ∀ i, min (r_sz u) (r_mk u) + i ≤ max (r_sz u) (r_mk u) → dfX x (min (r_sz u) (r_mk u) + i) = dfX x (min (r_sz u) (r_mk u)) + nI i
  | 0, _ => by rw [Nat.add_zero, nI_0, Int32.add_zero]
  | i + 1, hi => by
    have e : dfX x (min (r_sz u) (r_mk u) + (i + 1)) = dfX x (min (r_sz u) (r_mk u) + i) + 1 := by
      rw [show min (r_sz u) (r_mk u) + (i + 1) = (min (r_sz u) (r_mk u) + i) + 1 by omega, dfX_s]
      by_cases g : min (r_sz u) (r_mk u) + i < r_sz u
      · rw [if_neg (has_in (by rw [ht.1]; exact g) (by omega)), if_pos (has_out (by rw [hd.1]; omega) (by omega))]
      · rw [if_pos (has_out (by rw [ht.1]; omega) (by omega))]
    rw [e, diff_B ht hd h1 h3 i (by omega), Int32.add_assoc, nI_1]
theorem absI_N {a b : Nat} (ha : a ≤ 80) (hb : b ≤ 80) : absI (nI a - nI b) = nI (max a b - min a b) := by
  unfold absI
  by_cases g : b ≤ a
  · rw [pk_sub g, if_pos (nI_pos' (by omega)), show max a b - min a b = a - b by omega]
  · have e : nI a - nI b = 0 - nI (b - a) := by
      refine Int32.toInt_inj.mp ?_
      rw [pk_sub_toInt (by omega) (by omega), Int32.toInt_sub, tI0, nI_toInt (by omega), Int.bmod_eq_of_le (by omega) (by omega)]
      omega
    have hne : ¬ (0 : Int32) ≤ 0 - nI (b - a) := by
      rw [Int32.le_iff_toInt_le, Int32.toInt_sub, tI0, nI_toInt (by omega), Int.bmod_eq_of_le (by omega) (by omega)]
      omega
    rw [e, if_neg hne, show max a b - min a b = b - a by omega]
    refine Int32.toInt_inj.mp ?_
    rw [Int32.toInt_sub, Int32.toInt_sub, tI0, nI_toInt (by omega), Int.bmod_eq_of_le (n := 0 - ((b - a : Nat) : Int)) (by omega) (by omega), Int.bmod_eq_of_le (by omega) (by omega)]
    omega
theorem diff_R {x : Mx} {u : RS} (ht : RowQ (x_tx x) (r_sz u) (r_tx u)) (hd : RowQ (x_de x) (r_mk u) (r_ou u)) (h1 : r_sz u ≤ 80) (h3 : r_mk u ≤ 80) : dfX x (max (q_c (x_tx x)) (q_c (x_de x))) = dfR u (min (r_sz u) (r_mk u)) := by
  rw [ht.1, hd.1, diff_A ht hd h1 h3 _ (Nat.le_refl _)]
  have h0 : dfR u 0 = nI (max (r_sz u) (r_mk u) - min (r_sz u) (r_mk u)) := absI_N h1 h3
  have hB := diff_B ht hd h1 h3 (max (r_sz u) (r_mk u) - min (r_sz u) (r_mk u)) (by omega)
  rw [show min (r_sz u) (r_mk u) + (max (r_sz u) (r_mk u) - min (r_sz u) (r_mk u)) = max (r_sz u) (r_mk u) by omega] at hB
  rw [hB, h0, Int32.add_comm]
