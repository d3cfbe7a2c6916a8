/-! ===== the class's predictor beside the reference's: what holds between them ===== -/
def isN (x : Int32) (lo hi : Nat) : Prop := ∃ n : Nat, lo ≤ n ∧ n ≤ hi ∧ x = nI n
def SEr (s : Int64) (c n : Int32) : Prop := (s = 0 ∧ n = 0) ∨ (isN n 1 255 ∧ isN c 0 16974592 ∧ s = 256 * c.toInt64 + n.toInt64)
def ShR (o : Mo) (u : RS) (j : Nat) : Prop := (o_od o = r_od u j ∧ o_rt o = r_ra u j ∧ o_t o = r_lo u j) ∧ isN (o_od o) 0 3 ∧ isN (o_rt o) 2 7 ∧ isN (o_t o) 4 9
def TbR (o : Mo) (u : RS) (j : Nat) : Prop := (∀ i, i < 512 → o_co o i = r_co u (512 * j + i) ∧ isN (o_co o i) 1 4095) ∧ (∀ i, i < 8 → o_we o i = r_we u (8 * j + i) ∧ isN (o_we o i) 1 60000) ∧ (∀ i, i < 512 → SEr (o_se o i) (r_lc u (512 * j + i)) (r_ln u (512 * j + i))) ∧ o_cn o = r_cl u j
def AmR (la : Nat → Int32) (nd : Nat) (o : Mo) : Prop := o_cx o = ctxOf (o_od o) la ∧ o_si o = 256 * (o_cx o).toInt64 + (nI nd).toInt64 ∧ o_pl o = (73 * o_cx o + nI nd) &&& (o_ts o - 1)
def LaR (f g : Nat → Int32) : Prop := ∀ i, i < 3 → f i = g i ∧ isN (f i) 0 255
def SH (k : Pr) (u : RS) : Prop := (k_n k = r_n u ∧ k_n k ≤ 6) ∧ ∀ j, j < k_n k → ShR (k_mo k j) u j
def PV (k : Pr) (u : RS) : Prop := (k_n k = r_n u ∧ k_n k ≤ 6) ∧ (k_nd k = r_nd u ∧ 1 ≤ k_nd k ∧ k_nd k < 256) ∧ k_ph k = nI (phN (k_nd k)) ∧ LaR (k_la k) (r_hi u) ∧ ∀ j, j < k_n k → ShR (k_mo k j) u j ∧ TbR (k_mo k j) u j ∧ AmR (k_la k) (k_nd k) (k_mo k j)
theorem PV_SH {k : Pr} {u : RS} (h : PV k u) : SH k u := ⟨h.1, fun j hj => (h.2.2.2.2 j hj).1⟩
theorem ctx_congr {od : Int32} {f g : Nat → Int32} (h : ∀ i, i < 3 → f i = g i) : ctxOf od f = ctxOf od g := by
  unfold ctxOf
  rw [h 0 (by omega), h 1 (by omega), h 2 (by omega)]
theorem ctx_N {od : Int32} {la : Nat → Int32} (ho : isN od 0 3) (hl : ∀ i, i < 3 → isN (la i) 0 255) : isN (ctxOf od la) 0 16974592 := by
  obtain ⟨n, -, hn, rfl⟩ := ho
  obtain ⟨a0, -, h0, e0⟩ := hl 0 (by omega)
  obtain ⟨a1, -, h1, e1⟩ := hl 1 (by omega)
  obtain ⟨a2, -, h2, e2⟩ := hl 2 (by omega)
  have f1 : (1 : Int32) + nI a0 = nI (1 + a0) := nI_add 1 a0
  have f2 : (257 : Int32) * nI (1 + a0) + 1 + nI a1 = nI (257 * (1 + a0) + 1 + a1) := by
    rw [show (257 : Int32) * nI (1 + a0) = nI (257 * (1 + a0)) from pk_mul 257 (1 + a0), nI_1, nI_add]
  have f3 : (257 : Int32) * nI (257 * (1 + a0) + 1 + a1) + 1 + nI a2 = nI (257 * (257 * (1 + a0) + 1 + a1) + 1 + a2) := by
    rw [show (257 : Int32) * nI (257 * (1 + a0) + 1 + a1) = nI (257 * (257 * (1 + a0) + 1 + a1)) from pk_mul 257 _, nI_1, nI_add]
  unfold ctxOf
  rw [e0, e1, e2, f1, f2, f3]
  rcases (show n = 0 ∨ n = 1 ∨ n = 2 ∨ n = 3 by omega) with rfl | rfl | rfl | rfl
  · rw [if_pos (by decide)]
    exact ⟨0, by omega, by omega, rfl⟩
  · rw [if_neg (by decide), if_pos (by decide)]
    exact ⟨1 + a0, by omega, by omega, rfl⟩
  · rw [if_neg (by decide), if_neg (by decide), if_pos (by decide)]
    exact ⟨257 * (1 + a0) + 1 + a1, by omega, by omega, rfl⟩
  · rw [if_neg (by decide), if_neg (by decide), if_neg (by decide)]
    exact ⟨257 * (257 * (1 + a0) + 1 + a1) + 1 + a2, by omega, by omega, rfl⟩
/-- a table's size -/
theorem shl_N {t : Int32} (h : isN t 4 9) : ∃ i : Nat, 4 ≤ i ∧ i ≤ 9 ∧ (1 : Int32) <<< (t &&& 31) = nI (2 ^ i) := by
  obtain ⟨n, h1, h2, rfl⟩ := h
  refine ⟨n, h1, h2, ?_⟩
  rcases (show n = 4 ∨ n = 5 ∨ n = 6 ∨ n = 7 ∨ n = 8 ∨ n = 9 by omega) with rfl | rfl | rfl | rfl | rfl | rfl <;> decide
theorem pow_le {i : Nat} (h1 : 4 ≤ i) (h2 : i ≤ 9) : 16 ≤ 2 ^ i ∧ 2 ^ i ≤ 512 := by
  rcases (show i = 4 ∨ i = 5 ∨ i = 6 ∨ i = 7 ∨ i = 8 ∨ i = 9 by omega) with rfl | rfl | rfl | rfl | rfl | rfl <;> decide
theorem ts_N {o : Mo} {i : Nat} (h1 : 4 ≤ i) (h2 : i ≤ 9) (h : (1 : Int32) <<< (o_t o &&& 31) = nI (2 ^ i)) : o_ts o = nI (2 ^ i) := by
  obtain ⟨g1, g2⟩ := pow_le h1 h2
  unfold o_ts
  rw [h, if_neg]
  intro h9
  have := (nI_ltI (a := 512) (by omega) (by omega)).mp h9
  omega
/-- where a model looks: both say the same place -/
theorem pl_N {t c : Int32} {nd : Nat} (ht : isN t 4 9) (hc : isN c 0 16974592) (hnd : nd < 256) : ∃ i p : Nat, 4 ≤ i ∧ i ≤ 9 ∧ (1 : Int32) <<< (t &&& 31) = nI (2 ^ i) ∧ p < 2 ^ i ∧ (73 * c + nI nd) &&& (nI (2 ^ i) - 1) = nI p ∧ (73 * c + nI nd) - (73 * c + nI nd) / (nI (2 ^ i)) * (nI (2 ^ i)) = nI p := by
  obtain ⟨i, h1, h2, h3⟩ := shl_N ht
  obtain ⟨g1, g2⟩ := pow_le h1 h2
  obtain ⟨m, -, hm, rfl⟩ := hc
  have e : (73 : Int32) * nI m + nI nd = nI (73 * m + nd) := by rw [show (73 : Int32) * nI m = nI (73 * m) from pk_mul 73 m, nI_add]
  refine ⟨i, (73 * m + nd) % 2 ^ i, h1, h2, h3, Nat.mod_lt _ (by omega), ?_, ?_⟩
  · rw [e]
    refine pk_andN (by omega) i ?_
    rw [show nI (2 ^ i) - 1 = nI (2 ^ i - 1) from pk_sub (b := 1) (by omega)]
    exact pk_tn (by omega)
  · rw [e]
    exact pk_rem (by omega) (by omega) (by omega)
theorem plR {k : Pr} {u : RS} (h : PV k u) {j : Nat} (hj : j < k_n k) : ∃ p : Nat, p < 512 ∧ o_pl (k_mo k j) = nI p ∧ r_ix u j = nI p ∧ r_ctx u j = o_cx (k_mo k j) ∧ isN (o_cx (k_mo k j)) 0 16974592 ∧ (o_pl (k_mo k j)).toNatClampNeg = p ∧ (r_ix u j).toNatClampNeg = p ∧ (∃ i : Nat, 4 ≤ i ∧ i ≤ 9 ∧ (1 : Int32) <<< (r_lo u j &&& 31) = nI (2 ^ i) ∧ o_ts (k_mo k j) = nI (2 ^ i) ∧ p < 2 ^ i) := by
  obtain ⟨-, ⟨hnd, -, hnd2⟩, -, hla, hm⟩ := h
  obtain ⟨⟨⟨so, sr, st⟩, ho, -, ht⟩, -, ha1, ha2, ha3⟩ := hm j hj
  have hc : isN (o_cx (k_mo k j)) 0 16974592 := by rw [ha1]; exact ctx_N ho (fun i hi => (hla i hi).2)
  have hcx : r_ctx u j = o_cx (k_mo k j) := by
    unfold r_ctx
    rw [ha1, so]
    exact (ctx_congr (fun i hi => (hla i hi).1)).symm
  obtain ⟨i, p, h1, h2, h3, h4, h5, h6⟩ := pl_N ht hc hnd2
  obtain ⟨g1, g2⟩ := pow_le h1 h2
  have hts := ts_N h1 h2 h3
  have e1 : o_pl (k_mo k j) = nI p := by rw [ha3, hts]; exact h5
  have e2 : r_ix u j = nI p := by
    unfold r_ix
    rw [hcx, ← hnd, ← st, h3]
    exact h6
  exact ⟨p, by omega, e1, e2, hcx, hc, by rw [e1]; exact nI_clamp (by omega), by rw [e2]; exact nI_clamp (by omega), i, h1, h2, by rw [← st]; exact h3, hts, h4⟩
theorem phR {k : Pr} {u : RS} (h : PV k u) : (k_ph k).toNatClampNeg = phN (k_nd k) := by
  rw [h.2.2.1]
  exact nI_clamp (Nat.lt_trans (phN_lt _) (by omega))
theorem gR {k : Pr} {u : RS} (h : PV k u) {j : Nat} (hj : j < k_n k) : k_g k j = r_g u j ∧ isN (k_g k j) 1 4095 := by
  obtain ⟨p, hp, -, -, -, -, e1, e2, -⟩ := plR h hj
  obtain ⟨-, ⟨hco, -⟩, -⟩ := h.2.2.2.2 j hj
  have e : k_g k j = o_co (k_mo k j) p := by unfold k_g o_gs; rw [e1]
  refine ⟨?_, by rw [e]; exact (hco p hp).2⟩
  rw [e, (hco p hp).1]
  unfold r_g
  rw [e2]
theorem wR {k : Pr} {u : RS} (h : PV k u) {j : Nat} (hj : j < k_n k) : k_w k j = r_w u j ∧ isN (k_w k j) 1 60000 := by
  obtain ⟨-, ⟨-, hwe, -⟩, -⟩ := h.2.2.2.2 j hj
  have e : k_w k j = o_we (k_mo k j) (phN (k_nd k)) := by unfold k_w; rw [phR h]
  refine ⟨?_, by rw [e]; exact (hwe _ (phN_lt _)).2⟩
  rw [e, (hwe _ (phN_lt _)).1, h.2.1.1]
  rfl
theorem sums_N {w w' g g' : Nat → Int32} : ∀ n : Nat, n ≤ 6 → (∀ j, j < n → (w j = w' j ∧ isN (w j) 1 60000) ∧ g j = g' j ∧ isN (g j) 1 4095) → ∃ T P : Nat, sumT w n = nI T ∧ sumTL w' n = lN T ∧ sumP w g n = nI P ∧ sumPL w' g' n = lN P ∧ n ≤ T ∧ T ≤ 60000 * n ∧ T ≤ P ∧ P ≤ 4095 * T
  | 0, _, _ => ⟨0, 0, rfl, rfl, rfl, rfl, by omega, by omega, by omega, by omega⟩
  | n + 1, hn, h => by
    obtain ⟨T, P, h1, h2, h3, h4, h5, h6, h7, h8⟩ := sums_N n (by omega) (fun j hj => h j (by omega))
    obtain ⟨⟨ew, a, a1, a2, ea⟩, eg, b, b1, b2, eb⟩ := h n (by omega)
    have q1 : a ≤ a * b := Nat.le_mul_of_pos_right a b1
    have q2 : a * b ≤ a * 4095 := Nat.mul_le_mul_left a b2
    refine ⟨T + a, P + a * b, ?_, ?_, ?_, ?_, by omega, by omega, by omega, by omega⟩
    · show sumT w n + w n = _
      rw [h1, ea, nI_add]
    · show sumTL w' n + (w' n).toInt64 = _
      rw [h2, ← ew, ea, nI_l (by omega), lN_add]
    · show sumP w g n + w n * g n = _
      rw [h3, ea, eb, pk_mul, nI_add]
    · show sumPL w' g' n + (w' n).toInt64 * (g' n).toInt64 = _
      rw [h4, ← ew, ← eg, ea, eb, nI_l (by omega), nI_l (by omega), lN_mul, lN_add]
/-- both mix alike -/
theorem mxR {k : Pr} {u : RS} (h : PV k u) : k_mx k = r_mx u ∧ isN (k_mx k) 1 4095 := by
  obtain ⟨⟨hn, hn6⟩, -⟩ := id h
  obtain ⟨T, P, h1, h2, h3, h4, h5, h6, h7, h8⟩ := sums_N (w := k_w k) (w' := r_w u) (g := k_g k) (g' := r_g u) (k_n k) hn6 (fun j hj => ⟨wR h hj, gR h hj⟩)
  unfold k_mx r_mx
  rw [← hn, h1, h2, h3, h4]
  by_cases h0 : k_n k = 0
  · rw [if_pos h0]
    have hT : T = 0 := by rw [h0] at h6; omega
    rw [hT, if_neg (by decide)]
    exact ⟨rfl, 2048, by omega, by omega, rfl⟩
  · have hT : 0 < T := by omega
    have hT2 : (0 : Int32) < nI T := (nI_ltI (a := 0) (by omega) (by omega)).mpr hT
    rw [if_neg h0, if_pos hT2, pk_div (by omega) hT (by omega), pk_lDiv (by omega) hT (by omega)]
    have hq1 : 1 ≤ P / T := (Nat.le_div_iff_mul_le hT).mpr (by omega)
    have hq2 : P / T ≤ 4095 := Nat.div_le_of_le_mul (by rw [Nat.mul_comm]; exact h8)
    generalize P / T = q at hq1 hq2
    have c1 : clampQ (nI q) = nI q := by
      unfold clampQ
      have g1 : ¬ (4095 : Int32) < nI q := fun h9 => by have := (nI_ltI (a := 4095) (by omega) (by omega)).mp h9; omega
      rw [if_neg g1]
      by_cases g2 : (1 : Int32) < nI q
      · rw [if_pos g2]
      · rw [if_neg g2]
        have : ¬ 1 < q := fun h9 => g2 ((nI_ltI (a := 1) (by omega) (by omega)).mpr h9)
        rw [show q = 1 by omega]
        rfl
    have c2 : clampL (lN q) = lN q := by
      unfold clampL
      have e : (if lN q < (4095 : Int64) then lN q else 4095) = lN q := by
        by_cases g2 : lN q < (4095 : Int64)
        · rw [if_pos g2]
        · rw [if_neg g2]
          have : ¬ q < 4095 := fun h9 => g2 ((lN_lt (b := 4095) (by omega) (by omega)).mpr h9)
          rw [show q = 4095 by omega]
          rfl
      rw [e, if_neg]
      intro h9
      have := (lN_lt (b := 1) (by omega) (by omega)).mp h9
      omega
    rw [c1, c2, lN_i]
    exact ⟨rfl, q, hq1, hq2, rfl⟩
