/-! ===== Predictor ===== -/
def setM (f : Nat → Mo) (m : Nat) (o : Mo) : Nat → Mo := fun j => if j = m then o else f j
theorem setM_at (f : Nat → Mo) (m : Nat) (o : Mo) : setM f m o m = o := if_pos rfl
theorem setM_ss (f : Nat → Mo) (m : Nat) (x y : Mo) : setM (setM f m x) m y = setM f m y := by funext j; unfold setM; split <;> rfl
/-- the first n models changed -/
def mapM (g : Mo → Mo) (n : Nat) (f : Nat → Mo) : Nat → Mo := fun j => if j < n then g (f j) else f j
theorem mapM_0 (g : Mo → Mo) (f : Nat → Mo) : mapM g 0 f = f := by funext j; simp [mapM]
theorem mapM_at (g : Mo → Mo) (n : Nat) (f : Nat → Mo) : mapM g n f n = f n := if_neg (Nat.lt_irrefl n)
theorem mapM_lt {g : Mo → Mo} {n j : Nat} {f : Nat → Mo} (h : j < n) : mapM g n f j = g (f j) := if_pos h
theorem mapM_s (g : Mo → Mo) (n : Nat) (f : Nat → Mo) : setM (mapM g n f) n (g (mapM g n f n)) = mapM g (n + 1) f := by
  funext j
  unfold setM
  by_cases h : j = n
  · subst h
    rw [if_pos rfl, mapM_at, mapM_lt (Nat.lt_succ_self j)]
  · rw [if_neg h]
    unfold mapM
    by_cases h2 : j < n
    · rw [if_pos h2, if_pos (by omega)]
    · rw [if_neg h2, if_neg (by omega)]
section PRW
variable (cI cL cM : ClassId) (a : Nat → Nat) (k k' : Pr)
theorem prW_la (f : Ar) : putW (prW cI cL cM a k) [2] (aiW cI (a 9) 3 f) = prW cI cL cM a (ks_la k f) := rfl
variable {m : Nat}
theorem prW_C (h : m < 6) : [3 + 4 * m, 4 + 4 * m, 5 + 4 * m, 6 + 4 * m].map (fun i => (prW cI cL cM a k)[i]?) = (moW cI cL (a (11 + 4 * m)) (a (12 + 4 * m)) (a (13 + 4 * m)) (a (14 + 4 * m)) (k_mo k m)).map some := by
  match m, h with
  | 0, _ => rfl
  | 1, _ => rfl
  | 2, _ => rfl
  | 3, _ => rfl
  | 4, _ => rfl
  | 5, _ => rfl
theorem prW_nd (h : m < 6) : va_nd [3 + 4 * m, 4 + 4 * m, 5 + 4 * m, 6 + 4 * m] = true := by
  match m, h with
  | 0, _ => rfl
  | 1, _ => rfl
  | 2, _ => rfl
  | 3, _ => rfl
  | 4, _ => rfl
  | 5, _ => rfl
theorem prW_put (h : m < 6) (o : Mo) : putW (prW cI cL cM a k) [3 + 4 * m, 4 + 4 * m, 5 + 4 * m, 6 + 4 * m] (moW cI cL (a (11 + 4 * m)) (a (12 + 4 * m)) (a (13 + 4 * m)) (a (14 + 4 * m)) o) = prW cI cL cM a (ks_mo k (setM (k_mo k) m o)) := by
  match m, h with
  | 0, _ => rfl
  | 1, _ => rfl
  | 2, _ => rfl
  | 3, _ => rfl
  | 4, _ => rfl
  | 5, _ => rfl
theorem prW_self (h : m < 6) : prW cI cL cM a (ks_mo k (setM (k_mo k) m (k_mo k m))) = prW cI cL cM a k := by
  have e : setM (k_mo k) m (k_mo k m) = k_mo k := by
    funext j
    unfold setM
    split
    · rename_i h2; rw [h2]
    · rfl
  rw [e]
  rfl
theorem prW_o (h : m < 6) : (prW cI cL cM a k)[3 + 4 * m]? = some (a (11 + 4 * m), .inr (2, [.int (o_od (k_mo k m)), .int (o_rt (k_mo k m)), .int (o_t (k_mo k m)), .ref (a (12 + 4 * m)), .ref (a (13 + 4 * m)), .ref (a (14 + 4 * m)), .int (o_cn (k_mo k m)), .int (o_cx (k_mo k m)), .long (o_si (k_mo k m)), .int (o_pl (k_mo k m))])) := by
  match m, h with
  | 0, _ => rfl
  | 1, _ => rfl
  | 2, _ => rfl
  | 3, _ => rfl
  | 4, _ => rfl
  | 5, _ => rfl
theorem prW_w (h : m < 6) : (prW cI cL cM a k)[6 + 4 * m]? = some (a (14 + 4 * m), .inl (cI, 8, .inl (o_we (k_mo k m)))) := by
  match m, h with
  | 0, _ => rfl
  | 1, _ => rfl
  | 2, _ => rfl
  | 3, _ => rfl
  | 4, _ => rfl
  | 5, _ => rfl
theorem prW_Cl (h : m < 6) : [3 + 4 * m, 4 + 4 * m, 5 + 4 * m, 6 + 4 * m, 2].map (fun i => (prW cI cL cM a k)[i]?) = (olW cI cL (a (11 + 4 * m)) (a (12 + 4 * m)) (a (13 + 4 * m)) (a (14 + 4 * m)) (a 9) (k_mo k m, k_la k)).map some := by
  match m, h with
  | 0, _ => rfl
  | 1, _ => rfl
  | 2, _ => rfl
  | 3, _ => rfl
  | 4, _ => rfl
  | 5, _ => rfl
theorem prW_ndl (h : m < 6) : va_nd [3 + 4 * m, 4 + 4 * m, 5 + 4 * m, 6 + 4 * m, 2] = true := by
  match m, h with
  | 0, _ => rfl
  | 1, _ => rfl
  | 2, _ => rfl
  | 3, _ => rfl
  | 4, _ => rfl
  | 5, _ => rfl
theorem prW_putl (h : m < 6) (o : Mo) : putW (prW cI cL cM a k) [3 + 4 * m, 4 + 4 * m, 5 + 4 * m, 6 + 4 * m, 2] (olW cI cL (a (11 + 4 * m)) (a (12 + 4 * m)) (a (13 + 4 * m)) (a (14 + 4 * m)) (a 9) (js_o (k_mo k m, k_la k) o)) = prW cI cL cM a (ks_mo k (setM (k_mo k) m o)) := by
  match m, h with
  | 0, _ => rfl
  | 1, _ => rfl
  | 2, _ => rfl
  | 3, _ => rfl
  | 4, _ => rfl
  | 5, _ => rfl
end PRW
def k_rc (k : Pr) : Pr := ks_mo k (mapM (o_ctx (k_la k)) (k_n k) (k_mo k))
def k_am (k : Pr) : Pr := ks_mo k (mapM (o_aim (nI (k_nd k))) (k_n k) (k_mo k))
def k_r0 (k : Pr) : Pr := ks_er (ks_bt (ks_ph (ks_nd (ks_la (ks_mo k (mapM o_fgt (k_n k) (k_mo k))) (fiI 3 0 (k_la k))) 1) 0) 0) 0
def k_rs (k : Pr) : Pr := k_am (k_rc (k_r0 k))
def k_tk (k : Pr) (x y t : Int32) : Pr := k_rs (ks_n (ks_mo k (setM (k_mo k) (k_n k) (o_shp (k_mo k (k_n k)) x y t))) (k_n k + 1))
def k_dr (k : Pr) : Pr := k_rs (ks_n k (k_n k - 1))
def sumP (w g : Nat → Int32) : Nat → Int32
  | 0 => 0
  | j + 1 => sumP w g j + w j * g j
def sumT (w : Nat → Int32) : Nat → Int32
  | 0 => 0
  | j + 1 => sumT w j + w j
def k_w (k : Pr) : Nat → Int32 := fun j => o_we (k_mo k j) (k_ph k).toNatClampNeg
def k_g (k : Pr) : Nat → Int32 := fun j => o_gs (k_mo k j)
def clampQ (q : Int32) : Int32 := if (1 : Int32) < (if (4095 : Int32) < q then 4095 else q) then (if (4095 : Int32) < q then 4095 else q) else 1
def k_mx (k : Pr) : Int32 := if (0 : Int32) < sumT (k_w k) (k_n k) then clampQ (sumP (k_w k) (k_g k) (k_n k) / sumT (k_w k) (k_n k)) else 2048
def hvy (w : Nat → Int32) : Nat → Int32 × Int32
  | 0 => (-1, 0)
  | j + 1 => if w j ≤ (hvy w j).2 then hvy w j else (nI j, w j)
def bz (z : Int32) : Nat := if z = 0 then 0 else 1
def k_s1 (z : Int32) (k : Pr) : Pr := ks_ph (ks_nd k (2 * k_nd k + bz z)) ((k_ph k + 1) - (k_ph k + 1) / 8 * 8)
def la3 (f : Nat → Int32) (x : Int32) : Nat → Int32 := upd (upd (upd f 2 (f 1)) 1 ((upd f 2 (f 1)) 0)) 0 x
def k_st (z : Int32) (k : Pr) : Pr := if 2 * k_nd k + bz z < 256 then k_s1 z k else k_rc (ks_ph (ks_nd (ks_la k (la3 (k_la k) (nI (2 * k_nd k + bz z) - 256))) 1) ((k_ph k + 1) - (k_ph k + 1) / 8 * 8))
def o_l (ph z mq : Int32) (o : Mo) : Mo := o_ac z (o_aw ph z mq o)
def k_l0 (z mq : Int32) (k : Pr) : Pr := ks_er (ks_bt (ks_mo k (mapM (o_l (k_ph k) z mq) (k_n k) (k_mo k))) (k_bt k + 1)) (k_er k + (4096 - mq).toInt64)
def k_ln (z mx : Int32) (k : Pr) : Pr := k_am (k_st z (k_l0 z (qual mx z) k))
theorem o_aw_pl (ph z mq : Int32) (o : Mo) : o_pl (o_aw ph z mq o) = o_pl o := by unfold o_aw; split <;> (try split) <;> rfl
theorem bz_0 {z : Int32} (h : z = 0) : bz z = 0 := if_pos h
theorem bz_1 {z : Int32} (h : ¬ z = 0) : bz z = 1 := if_neg h
theorem bz_le (z : Int32) : bz z ≤ 1 := by unfold bz; split <;> omega
theorem nd2 (n b : Nat) : 2 * nI n + nI b = nI (2 * n + b) := by rw [show (2 : Int32) = nI 2 from rfl, pk_mul, nI_add]
theorem ge_N {a b : Nat} (ha : a < 2147483648) (hb : b < 2147483648) (h : nI a ≤ nI b) : a ≤ b := (nI_leI ha hb).mp h
theorem nge_N {a b : Nat} (ha : a < 2147483648) (hb : b < 2147483648) (h : ¬ nI a ≤ nI b) : b < a := by
  rcases Nat.lt_or_ge b a with q | q
  · exact q
  · exact absurd ((nI_leI ha hb).mpr q) h

set_option maxHeartbeats 4000000 in
set_option maxRecDepth 100000 in
theorem c_X3_readContexts (l : Launch) (D : va_G) (cI cL cM : ClassId) (A : Nat → Prop) (a : Nat → Nat) (k : Pr) (hn6 : k_n k ≤ 6) : mV l yX3_readContexts wsX3_readContexts ({ frames := 1, cells := 0, slots := 0, locals := 23 }) D (tB cI cL cM) A [.ref (a 7)] (prW cI cL cM a k) (prW cI cL cM a (k_rc k)) := by
  refine Met.ofW (cc := cX3_readContexts) (maxL := 2) (ret := none) (by decide) rfl ?_
  intro p e s m args below meth c s₁ B hml hv
  obtain ⟨rfl, hP, hE, hD, hA⟩ := hv
  have hK := hE.1
  have hx := B.exec
  have hb := B.bytes
  have hr := B.returns
  have hts := atoms_spec (ws := wsX3_readContexts) B.pre
  have hown : s.vm.findClass RX3 = some m.cls := findClass_of_methodNamed B.named
  have hlocks := B.notSynchronized
  have hS : va_S A s.heap s.heap [] := va_S.rf
  have hl := lv_entry ([.ref (a 7)]) (n := 2) (Nat.le_of_ble_eq_true rfl)
  rw [lg_entry_eq]
  generalize (lg_sl ([.ref (a 7)]) ++ List.replicate (2 - (lg_sl ([.ref (a 7)])).length) Slot.unset).toArray = ls at hl ⊢
  have hl : lv_has ls 2 [(0, .ref (a 7))] := hl
  refine lv_iconst (v := 0) hx hb dX3_readContexts_0 (by decide) ?_
  refine lv_istore_n (lv' := [(1, .int 0), (0, .ref (a 7))]) hx hb dX3_readContexts_1 rfl hl (by decide) rfl (fun ls hl => ?_)
  have lp2 : ∀ (n9 : Nat) (j : Nat) (hj : j ≤ k_n k), k_n k - j < n9 → ∀ (H : Heap) (locs : List Loc), va_P D vwCl (prW cI cL cM a (ks_mo k (mapM (o_ctx (k_la k)) j (k_mo k)))) H → va_D A (prW cI cL cM a (ks_mo k (mapM (o_ctx (k_la k)) j (k_mo k)))) → va_S A s.heap H locs → ∀ (ls : Array Slot), lv_has ls 2 [(1, .int (nI j)), (0, .ref (a 7))] → W p l e (headSpec wsX3_readContexts ({ frames := 1, cells := 0, slots := 0, locals := 23 })).room s m (([.ref (a 7)] : List Value).toArray) below meth c H locs 0 0 (MQ below (va_Qv (fun (_ : Unit) => True) (fun _ t => hq D A (prW cI cL cM a (k_rc k)) t) A) (([.ref (a 7)] : List Value).toArray) s 0 0 A) (F0 m 2 ls []) := by
    intro n9
    induction n9 with
    | zero => intro j hj hm9; exact absurd hm9 (Nat.not_lt_zero _)
    | succ n9 ih_lp2 =>
      intro j hj hm9 H locs hP hD hS ls hl
      refine lv_iload_n hx hb dX3_readContexts_2 rfl (lv_at hl 0 rfl) ?_
      refine lv_aload_n hx hb dX3_readContexts_3 rfl (lv_at hl 1 rfl) ?_
      refine va_get (D := D) (ci := 3) (v := .int (nI (k_n k))) (C := RX3) (T := TX3) (N := 7) hx hb hts (fun _ h => List.mem_cons_of_mem _ (List.mem_append_left _ (List.mem_append_right _ h))) hown hK hP 0 rfl rfl 1 (by decide) (hts _ (List.mem_of_getElem? (i := 1) rfl)) (fun _ h9 => h9) rfl dX3_readContexts_4 ?_
      refine lv_icmp_ge (tgt := 29) hx hb dX3_readContexts_7 (by decide) (fun cj => ?_) (fun cj => ?_)
      · have cj : (nI (k_n k)) ≤ (nI j) := cj
        have hjn : j = k_n k := by have h8 := ge_N (by omega) (by omega) cj; omega
        have hw9 : (prW cI cL cM a (ks_mo k (mapM (o_ctx (k_la k)) j (k_mo k)))) = (prW cI cL cM a (k_rc k)) := by rw [hjn]; rfl
        rw [hw9] at hP hD
        exact W.vret hx hb hr (fun t ht hW => ⟨⟨(), rfl, trivial, by rw [ht]; exact hP, hD⟩, hS.F ht⟩) hS.2.2 dX3_readContexts_29
      · have cj : ¬ (nI (k_n k)) ≤ (nI j) := cj
        have hjn : j < k_n k := nge_N (by omega) (by omega) cj
        have hm6 : j < 6 := by omega
        refine lv_aload_n hx hb dX3_readContexts_10 rfl (lv_at hl 1 rfl) ?_
        refine va_get (D := D) (ci := 3) (v := .ref (a 8)) (C := RX3) (T := TX3) (N := 7) hx hb hts (fun _ h => List.mem_cons_of_mem _ (List.mem_append_left _ (List.mem_append_right _ h))) hown hK hP 0 rfl rfl 0 (by decide) (hts _ (List.mem_of_getElem? (i := 2) rfl)) (fun _ h9 => h9) rfl dX3_readContexts_11 ?_
        refine lv_iload_n hx hb dX3_readContexts_14 rfl (lv_at hl 0 rfl) ?_
        refine aldN hx hb hK hP 1 2 rfl rfl j (hm6) (Nat.le_of_ble_eq_true rfl) rfl dX3_readContexts_15 ?_
        refine lv_aload_n hx hb dX3_readContexts_16 rfl (lv_at hl 1 rfl) ?_
        refine va_get (D := D) (ci := 3) (v := .ref (a 9)) (C := RX3) (T := TX3) (N := 7) hx hb hts (fun _ h => List.mem_cons_of_mem _ (List.mem_append_left _ (List.mem_append_right _ h))) hown hK hP 0 rfl rfl 2 (by decide) (hts _ (List.mem_of_getElem? (i := 3) rfl)) (fun _ h9 => h9) rfl dX3_readContexts_17 ?_
        refine kV (rV (As := [.ref (a 9)]) (rest := []) ⟨hx, hb, hml, hown, hts⟩ (c_X2_readContext l D cI cL cM _ (a (11 + 4 * j)) (a (12 + 4 * j)) (a (13 + 4 * j)) (a (14 + 4 * j)) (a 9) (k_mo (ks_mo k (mapM (o_ctx (k_la k)) j (k_mo k))) j, k_la (ks_mo k (mapM (o_ctx (k_la k)) j (k_mo k))))) (cwV 1 hts gX3_readContexts_X2_readContext rfl rfl rfl (by decide +kernel) ⟨(Nat.le_of_ble_eq_true rfl), (Nat.le_of_ble_eq_true rfl)⟩) hE hP hD [3 + 4 * j, 4 + 4 * j, 5 + 4 * j, 6 + 4 * j, 2] (prW_ndl hm6) (prW_Cl cI cL cM a _ hm6) rfl rfl rfl hl.1 rfl (Nat.le_of_ble_eq_true rfl) dX3_readContexts_20 ⟨(Nat.le_of_ble_eq_true rfl), (Nat.le_of_ble_eq_true rfl)⟩) hP hD hS hA (is := [3 + 4 * j, 4 + 4 * j, 5 + 4 * j, 6 + 4 * j, 2]) (prW_Cl cI cL cM a _ hm6) rfl (fun H locs hP hD hS => ?_)
        rw [prW_putl cI cL cM a _ hm6] at hP hD
        have hP : va_P D vwCl (prW cI cL cM a (ks_mo k (setM (mapM (o_ctx (k_la k)) j (k_mo k)) j (o_ctx (k_la k) ((mapM (o_ctx (k_la k)) j (k_mo k)) j))))) H := hP
        have hD : va_D A (prW cI cL cM a (ks_mo k (setM (mapM (o_ctx (k_la k)) j (k_mo k)) j (o_ctx (k_la k) ((mapM (o_ctx (k_la k)) j (k_mo k)) j))))) := hD
        refine lv_iinc (v := nI (j + 1)) (lv' := [(1, .int (nI (j + 1))), (0, .ref (a 7))]) hx hb dX3_readContexts_23 hl (k := 0) rfl (nI_1 _) (by decide) rfl (fun ls hl => ?_)
        refine lv_goto (tgt := 2) hx hb dX3_readContexts_26 (by decide) ?_
        rw [mapM_s] at hP hD
        exact ih_lp2 (j + 1) (by omega) (by omega) _ _ hP hD hS ls (lv_sub hl [0, 1] rfl)
  have e0 : (prW cI cL cM a k) = (prW cI cL cM a (ks_mo k (mapM (o_ctx (k_la k)) 0 (k_mo k)))) := by rw [mapM_0]; rfl
  rw [e0] at hP hD
  exact lp2 _ 0 (Nat.zero_le _) (Nat.lt_succ_self _) _ _ hP hD hS ls (lv_sub hl [0, 1] rfl)

set_option maxHeartbeats 4000000 in
set_option maxRecDepth 100000 in
theorem c_X3_aimModels (l : Launch) (D : va_G) (cI cL cM : ClassId) (A : Nat → Prop) (a : Nat → Nat) (k : Pr) (hn6 : k_n k ≤ 6) : mV l yX3_aimModels wsX3_aimModels ({ frames := 3, cells := 0, slots := 0, locals := 65 }) D (tB cI cL cM) A [.ref (a 7)] (prW cI cL cM a k) (prW cI cL cM a (k_am k)) := by
  refine Met.ofW (cc := cX3_aimModels) (maxL := 2) (ret := none) (by decide) rfl ?_
  intro p e s m args below meth c s₁ B hml hv
  obtain ⟨rfl, hP, hE, hD, hA⟩ := hv
  have hK := hE.1
  have hx := B.exec
  have hb := B.bytes
  have hr := B.returns
  have hts := atoms_spec (ws := wsX3_aimModels) B.pre
  have hown : s.vm.findClass RX3 = some m.cls := findClass_of_methodNamed B.named
  have hlocks := B.notSynchronized
  have hS : va_S A s.heap s.heap [] := va_S.rf
  have hl := lv_entry ([.ref (a 7)]) (n := 2) (Nat.le_of_ble_eq_true rfl)
  rw [lg_entry_eq]
  generalize (lg_sl ([.ref (a 7)]) ++ List.replicate (2 - (lg_sl ([.ref (a 7)])).length) Slot.unset).toArray = ls at hl ⊢
  have hl : lv_has ls 2 [(0, .ref (a 7))] := hl
  refine lv_iconst (v := 0) hx hb dX3_aimModels_0 (by decide) ?_
  refine lv_istore_n (lv' := [(1, .int 0), (0, .ref (a 7))]) hx hb dX3_aimModels_1 rfl hl (by decide) rfl (fun ls hl => ?_)
  have lp2 : ∀ (n9 : Nat) (j : Nat) (hj : j ≤ k_n k), k_n k - j < n9 → ∀ (H : Heap) (locs : List Loc), va_P D vwCl (prW cI cL cM a (ks_mo k (mapM (o_aim (nI (k_nd k))) j (k_mo k)))) H → va_D A (prW cI cL cM a (ks_mo k (mapM (o_aim (nI (k_nd k))) j (k_mo k)))) → va_S A s.heap H locs → ∀ (ls : Array Slot), lv_has ls 2 [(1, .int (nI j)), (0, .ref (a 7))] → W p l e (headSpec wsX3_aimModels ({ frames := 3, cells := 0, slots := 0, locals := 65 })).room s m (([.ref (a 7)] : List Value).toArray) below meth c H locs 0 0 (MQ below (va_Qv (fun (_ : Unit) => True) (fun _ t => hq D A (prW cI cL cM a (k_am k)) t) A) (([.ref (a 7)] : List Value).toArray) s 0 0 A) (F0 m 2 ls []) := by
    intro n9
    induction n9 with
    | zero => intro j hj hm9; exact absurd hm9 (Nat.not_lt_zero _)
    | succ n9 ih_lp2 =>
      intro j hj hm9 H locs hP hD hS ls hl
      refine lv_iload_n hx hb dX3_aimModels_2 rfl (lv_at hl 0 rfl) ?_
      refine lv_aload_n hx hb dX3_aimModels_3 rfl (lv_at hl 1 rfl) ?_
      refine va_get (D := D) (ci := 3) (v := .int (nI (k_n k))) (C := RX3) (T := TX3) (N := 7) hx hb hts (fun _ h => List.mem_cons_of_mem _ (List.mem_append_left _ (List.mem_append_right _ h))) hown hK hP 0 rfl rfl 1 (by decide) (hts _ (List.mem_of_getElem? (i := 1) rfl)) (fun _ h9 => h9) rfl dX3_aimModels_4 ?_
      refine lv_icmp_ge (tgt := 29) hx hb dX3_aimModels_7 (by decide) (fun cj => ?_) (fun cj => ?_)
      · have cj : (nI (k_n k)) ≤ (nI j) := cj
        have hjn : j = k_n k := by have h8 := ge_N (by omega) (by omega) cj; omega
        have hw9 : (prW cI cL cM a (ks_mo k (mapM (o_aim (nI (k_nd k))) j (k_mo k)))) = (prW cI cL cM a (k_am k)) := by rw [hjn]; rfl
        rw [hw9] at hP hD
        exact W.vret hx hb hr (fun t ht hW => ⟨⟨(), rfl, trivial, by rw [ht]; exact hP, hD⟩, hS.F ht⟩) hS.2.2 dX3_aimModels_29
      · have cj : ¬ (nI (k_n k)) ≤ (nI j) := cj
        have hjn : j < k_n k := nge_N (by omega) (by omega) cj
        have hm6 : j < 6 := by omega
        refine lv_aload_n hx hb dX3_aimModels_10 rfl (lv_at hl 1 rfl) ?_
        refine va_get (D := D) (ci := 3) (v := .ref (a 8)) (C := RX3) (T := TX3) (N := 7) hx hb hts (fun _ h => List.mem_cons_of_mem _ (List.mem_append_left _ (List.mem_append_right _ h))) hown hK hP 0 rfl rfl 0 (by decide) (hts _ (List.mem_of_getElem? (i := 2) rfl)) (fun _ h9 => h9) rfl dX3_aimModels_11 ?_
        refine lv_iload_n hx hb dX3_aimModels_14 rfl (lv_at hl 0 rfl) ?_
        refine aldN hx hb hK hP 1 2 rfl rfl j (hm6) (Nat.le_of_ble_eq_true rfl) rfl dX3_aimModels_15 ?_
        refine lv_aload_n hx hb dX3_aimModels_16 rfl (lv_at hl 1 rfl) ?_
        refine va_get (D := D) (ci := 3) (v := .int (nI (k_nd k))) (C := RX3) (T := TX3) (N := 7) hx hb hts (fun _ h => List.mem_cons_of_mem _ (List.mem_append_left _ (List.mem_append_right _ h))) hown hK hP 0 rfl rfl 3 (by decide) (hts _ (List.mem_of_getElem? (i := 3) rfl)) (fun _ h9 => h9) rfl dX3_aimModels_17 ?_
        refine kV (rV (As := [.int (nI (k_nd k))]) (rest := []) ⟨hx, hb, hml, hown, hts⟩ (c_X2_aim l D cI cL cM _ (a (11 + 4 * j)) (a (12 + 4 * j)) (a (13 + 4 * j)) (a (14 + 4 * j)) ((mapM (o_aim (nI (k_nd k))) j (k_mo k)) j) (nI (k_nd k)) ) (cwV 1 hts gX3_aimModels_X2_aim rfl rfl rfl (by decide +kernel) ⟨(Nat.le_of_ble_eq_true rfl), (Nat.le_of_ble_eq_true rfl)⟩) hE hP hD [3 + 4 * j, 4 + 4 * j, 5 + 4 * j, 6 + 4 * j] (prW_nd hm6) (prW_C cI cL cM a _ hm6) rfl rfl rfl hl.1 rfl (Nat.le_of_ble_eq_true rfl) dX3_aimModels_20 ⟨(Nat.le_of_ble_eq_true rfl), (Nat.le_of_ble_eq_true rfl)⟩) hP hD hS hA (is := [3 + 4 * j, 4 + 4 * j, 5 + 4 * j, 6 + 4 * j]) (prW_C cI cL cM a _ hm6) rfl (fun H locs hP hD hS => ?_)
        rw [prW_put cI cL cM a _ hm6] at hP hD
        have hP : va_P D vwCl (prW cI cL cM a (ks_mo k (setM (mapM (o_aim (nI (k_nd k))) j (k_mo k)) j (o_aim (nI (k_nd k)) ((mapM (o_aim (nI (k_nd k))) j (k_mo k)) j))))) H := hP
        have hD : va_D A (prW cI cL cM a (ks_mo k (setM (mapM (o_aim (nI (k_nd k))) j (k_mo k)) j (o_aim (nI (k_nd k)) ((mapM (o_aim (nI (k_nd k))) j (k_mo k)) j))))) := hD
        refine lv_iinc (v := nI (j + 1)) (lv' := [(1, .int (nI (j + 1))), (0, .ref (a 7))]) hx hb dX3_aimModels_23 hl (k := 0) rfl (nI_1 _) (by decide) rfl (fun ls hl => ?_)
        refine lv_goto (tgt := 2) hx hb dX3_aimModels_26 (by decide) ?_
        rw [mapM_s] at hP hD
        exact ih_lp2 (j + 1) (by omega) (by omega) _ _ hP hD hS ls (lv_sub hl [0, 1] rfl)
  have e0 : (prW cI cL cM a k) = (prW cI cL cM a (ks_mo k (mapM (o_aim (nI (k_nd k))) 0 (k_mo k)))) := by rw [mapM_0]; rfl
  rw [e0] at hP hD
  exact lp2 _ 0 (Nat.zero_le _) (Nat.lt_succ_self _) _ _ hP hD hS ls (lv_sub hl [0, 1] rfl)

set_option maxHeartbeats 4000000 in
set_option maxRecDepth 100000 in
theorem c_X3_restart (l : Launch) (D : va_G) (cI cL cM : ClassId) (A : Nat → Prop) (a : Nat → Nat) (k : Pr) (hn6 : k_n k ≤ 6) : mV l yX3_restart wsX3_restart ({ frames := 4, cells := 0, slots := 0, locals := 86 }) D (tB cI cL cM) A [.ref (a 7)] (prW cI cL cM a k) (prW cI cL cM a (k_rs k)) := by
  refine Met.ofW (cc := cX3_restart) (maxL := 2) (ret := none) (by decide) rfl ?_
  intro p e s m args below meth c s₁ B hml hv
  obtain ⟨rfl, hP, hE, hD, hA⟩ := hv
  have hK := hE.1
  have hx := B.exec
  have hb := B.bytes
  have hr := B.returns
  have hts := atoms_spec (ws := wsX3_restart) B.pre
  have hown : s.vm.findClass RX3 = some m.cls := findClass_of_methodNamed B.named
  have hlocks := B.notSynchronized
  have hS : va_S A s.heap s.heap [] := va_S.rf
  have hl := lv_entry ([.ref (a 7)]) (n := 2) (Nat.le_of_ble_eq_true rfl)
  rw [lg_entry_eq]
  generalize (lg_sl ([.ref (a 7)]) ++ List.replicate (2 - (lg_sl ([.ref (a 7)])).length) Slot.unset).toArray = ls at hl ⊢
  have hl : lv_has ls 2 [(0, .ref (a 7))] := hl
  refine lv_iconst (v := 0) hx hb dX3_restart_0 (by decide) ?_
  refine lv_istore_n (lv' := [(1, .int 0), (0, .ref (a 7))]) hx hb dX3_restart_1 rfl hl (by decide) rfl (fun ls hl => ?_)
  have lp2 : ∀ (n9 : Nat) (j : Nat) (hj : j ≤ k_n k), k_n k - j < n9 → ∀ (H : Heap) (locs : List Loc), va_P D vwCl (prW cI cL cM a (ks_mo k (mapM o_fgt j (k_mo k)))) H → va_D A (prW cI cL cM a (ks_mo k (mapM o_fgt j (k_mo k)))) → va_S A s.heap H locs → ∀ (ls : Array Slot), lv_has ls 2 [(1, .int (nI j)), (0, .ref (a 7))] → W p l e (headSpec wsX3_restart ({ frames := 4, cells := 0, slots := 0, locals := 86 })).room s m (([.ref (a 7)] : List Value).toArray) below meth c H locs 0 0 (MQ below (va_Qv (fun (_ : Unit) => True) (fun _ t => hq D A (prW cI cL cM a (k_rs k)) t) A) (([.ref (a 7)] : List Value).toArray) s 0 0 A) (F0 m 2 ls []) := by
    intro n9
    induction n9 with
    | zero => intro j hj hm9; exact absurd hm9 (Nat.not_lt_zero _)
    | succ n9 ih_lp2 =>
      intro j hj hm9 H locs hP hD hS ls hl
      refine lv_iload_n hx hb dX3_restart_2 rfl (lv_at hl 0 rfl) ?_
      refine lv_aload_n hx hb dX3_restart_3 rfl (lv_at hl 1 rfl) ?_
      refine va_get (D := D) (ci := 3) (v := .int (nI (k_n k))) (C := RX3) (T := TX3) (N := 7) hx hb hts (fun _ h => List.mem_cons_of_mem _ (List.mem_append_left _ (List.mem_append_right _ h))) hown hK hP 0 rfl rfl 1 (by decide) (hts _ (List.mem_of_getElem? (i := 1) rfl)) (fun _ h9 => h9) rfl dX3_restart_4 ?_
      refine lv_icmp_ge (tgt := 25) hx hb dX3_restart_7 (by decide) (fun cj => ?_) (fun cj => ?_)
      · have cj : (nI (k_n k)) ≤ (nI j) := cj
        have hjn : j = k_n k := by have h8 := ge_N (by omega) (by omega) cj; omega
        rw [hjn] at hP hD
        refine lv_aload_n hx hb dX3_restart_25 rfl (lv_at hl 1 rfl) ?_
        refine va_get (D := D) (ci := 3) (v := .ref (a 9)) (C := RX3) (T := TX3) (N := 7) hx hb hts (fun _ h => List.mem_cons_of_mem _ (List.mem_append_left _ (List.mem_append_right _ h))) hown hK hP 0 rfl rfl 2 (by decide) (hts _ (List.mem_of_getElem? (i := 3) rfl)) (fun _ h9 => h9) rfl dX3_restart_26 ?_
        refine lv_iconst (v := 0) hx hb dX3_restart_29 (by decide) ?_
        refine kV (rS (As := [.ref (a 9), .int 0]) (rest := []) ⟨hx, hb, hml, hown, hts⟩ (c_J7_fill_53178 l D cI cL cM _ (a 9) 3 (k_la k) 0 (Nat.le_of_ble_eq_true rfl)) (va_cwS 2 hts gX3_restart_J7_fill_53178 rfl rfl rfl (by decide +kernel) ⟨(Nat.le_of_ble_eq_true rfl), (Nat.le_of_ble_eq_true rfl)⟩) hE hP hD [2] rfl rfl rfl hl.1 rfl (Nat.le_of_ble_eq_true rfl) dX3_restart_30 ⟨(Nat.le_of_ble_eq_true rfl), (Nat.le_of_ble_eq_true rfl)⟩) hP hD hS hA (is := [2]) rfl rfl (fun H locs hP hD hS => ?_)
        rw [prW_la] at hP hD
        have hP : va_P D vwCl (prW cI cL cM a (ks_la (ks_mo k (mapM o_fgt (k_n k) (k_mo k))) (fiI 3 0 (k_la k)))) H := hP
        have hD : va_D A (prW cI cL cM a (ks_la (ks_mo k (mapM o_fgt (k_n k) (k_mo k))) (fiI 3 0 (k_la k)))) := hD
        refine lv_aload_n hx hb dX3_restart_33 rfl (lv_at hl 1 rfl) ?_
        refine lv_iconst (v := 1) hx hb dX3_restart_34 (by decide) ?_
        refine va_put (D := D) (ci := 3) (v := .int 1) (ty := .int) (C := RX3) (T := TX3) (N := 7) hx hb hts (fun _ h => List.mem_cons_of_mem _ (List.mem_append_left _ (List.mem_append_right _ h))) tyX3 tyX3_ok nmX3 hown hK hP hD hS 0 rfl rfl 3 (by decide) (hts _ (List.mem_of_getElem? (i := 4) rfl)) (fun _ h9 => h9) rfl (by decide +kernel) rfl rfl (Nat.le_of_ble_eq_true rfl) dX3_restart_35 (fun H locs hP hD hS => ?_)
        have hP : va_P D vwCl (prW cI cL cM a (ks_nd (ks_la (ks_mo k (mapM o_fgt (k_n k) (k_mo k))) (fiI 3 0 (k_la k))) 1)) H := hP
        have hD : va_D A (prW cI cL cM a (ks_nd (ks_la (ks_mo k (mapM o_fgt (k_n k) (k_mo k))) (fiI 3 0 (k_la k))) 1)) := hD
        refine lv_aload_n hx hb dX3_restart_38 rfl (lv_at hl 1 rfl) ?_
        refine lv_iconst (v := 0) hx hb dX3_restart_39 (by decide) ?_
        refine va_put (D := D) (ci := 3) (v := .int 0) (ty := .int) (C := RX3) (T := TX3) (N := 7) hx hb hts (fun _ h => List.mem_cons_of_mem _ (List.mem_append_left _ (List.mem_append_right _ h))) tyX3 tyX3_ok nmX3 hown hK hP hD hS 0 rfl rfl 4 (by decide) (hts _ (List.mem_of_getElem? (i := 5) rfl)) (fun _ h9 => h9) rfl (by decide +kernel) rfl rfl (Nat.le_of_ble_eq_true rfl) dX3_restart_40 (fun H locs hP hD hS => ?_)
        have hP : va_P D vwCl (prW cI cL cM a (ks_ph (ks_nd (ks_la (ks_mo k (mapM o_fgt (k_n k) (k_mo k))) (fiI 3 0 (k_la k))) 1) 0)) H := hP
        have hD : va_D A (prW cI cL cM a (ks_ph (ks_nd (ks_la (ks_mo k (mapM o_fgt (k_n k) (k_mo k))) (fiI 3 0 (k_la k))) 1) 0)) := hD
        refine lv_aload_n hx hb dX3_restart_43 rfl (lv_at hl 1 rfl) ?_
        refine lv_iconst (v := 0) hx hb dX3_restart_44 (by decide) ?_
        refine va_put (D := D) (ci := 3) (v := .int 0) (ty := .int) (C := RX3) (T := TX3) (N := 7) hx hb hts (fun _ h => List.mem_cons_of_mem _ (List.mem_append_left _ (List.mem_append_right _ h))) tyX3 tyX3_ok nmX3 hown hK hP hD hS 0 rfl rfl 5 (by decide) (hts _ (List.mem_of_getElem? (i := 6) rfl)) (fun _ h9 => h9) rfl (by decide +kernel) rfl rfl (Nat.le_of_ble_eq_true rfl) dX3_restart_45 (fun H locs hP hD hS => ?_)
        have hP : va_P D vwCl (prW cI cL cM a (ks_bt (ks_ph (ks_nd (ks_la (ks_mo k (mapM o_fgt (k_n k) (k_mo k))) (fiI 3 0 (k_la k))) 1) 0) 0)) H := hP
        have hD : va_D A (prW cI cL cM a (ks_bt (ks_ph (ks_nd (ks_la (ks_mo k (mapM o_fgt (k_n k) (k_mo k))) (fiI 3 0 (k_la k))) 1) 0) 0)) := hD
        refine lv_aload_n hx hb dX3_restart_48 rfl (lv_at hl 1 rfl) ?_
        refine lv_lconst (v := 0) hx hb dX3_restart_49 (by decide) ?_
        refine va_put (D := D) (ci := 3) (v := .long 0) (ty := .long) (C := RX3) (T := TX3) (N := 7) hx hb hts (fun _ h => List.mem_cons_of_mem _ (List.mem_append_left _ (List.mem_append_right _ h))) tyX3 tyX3_ok nmX3 hown hK hP hD hS 0 rfl rfl 6 (by decide) (hts _ (List.mem_of_getElem? (i := 7) rfl)) (fun _ h9 => h9) rfl (by decide +kernel) rfl rfl (Nat.le_of_ble_eq_true rfl) dX3_restart_50 (fun H locs hP hD hS => ?_)
        have hP : va_P D vwCl (prW cI cL cM a (ks_er (ks_bt (ks_ph (ks_nd (ks_la (ks_mo k (mapM o_fgt (k_n k) (k_mo k))) (fiI 3 0 (k_la k))) 1) 0) 0) 0)) H := hP
        have hD : va_D A (prW cI cL cM a (ks_er (ks_bt (ks_ph (ks_nd (ks_la (ks_mo k (mapM o_fgt (k_n k) (k_mo k))) (fiI 3 0 (k_la k))) 1) 0) 0) 0)) := hD
        refine lv_aload_n hx hb dX3_restart_53 rfl (lv_at hl 1 rfl) ?_
        refine kVa (rVa (As := []) (rest := []) ⟨hx, hb, hml, hown, hts⟩ (c_X3_readContexts l D cI cL cM _ a (ks_er (ks_bt (ks_ph (ks_nd (ks_la (ks_mo k (mapM o_fgt (k_n k) (k_mo k))) (fiI 3 0 (k_la k))) 1) 0) 0) 0)  hn6) (cwV 0 hts gX3_restart_X3_readContexts rfl rfl rfl (by decide +kernel) ⟨(Nat.le_of_ble_eq_true rfl), (Nat.le_of_ble_eq_true rfl)⟩) hE hP hD hS hA 0 rfl rfl rfl hl.1 rfl (Nat.le_of_ble_eq_true rfl) dX3_restart_54 ⟨(Nat.le_of_ble_eq_true rfl), (Nat.le_of_ble_eq_true rfl)⟩) hS (fun H locs hP hD hS => ?_)
        have hP : va_P D vwCl (prW cI cL cM a (k_rc (ks_er (ks_bt (ks_ph (ks_nd (ks_la (ks_mo k (mapM o_fgt (k_n k) (k_mo k))) (fiI 3 0 (k_la k))) 1) 0) 0) 0))) H := hP
        have hD : va_D A (prW cI cL cM a (k_rc (ks_er (ks_bt (ks_ph (ks_nd (ks_la (ks_mo k (mapM o_fgt (k_n k) (k_mo k))) (fiI 3 0 (k_la k))) 1) 0) 0) 0))) := hD
        obtain ⟨u_1, hu_1⟩ : ∃ y9 : Pr, y9 = (k_rc (ks_er (ks_bt (ks_ph (ks_nd (ks_la (ks_mo k (mapM o_fgt (k_n k) (k_mo k))) (fiI 3 0 (k_la k))) 1) 0) 0) 0)) := ⟨_, rfl⟩
        rw [← hu_1] at hP hD
        have hn6 : k_n u_1 ≤ 6 := by rw [hu_1]; exact hn6
        refine lv_aload_n hx hb dX3_restart_57 rfl (lv_at hl 1 rfl) ?_
        refine kVa (rVa (As := []) (rest := []) ⟨hx, hb, hml, hown, hts⟩ (c_X3_aimModels l D cI cL cM _ a u_1  hn6) (cwV 0 hts gX3_restart_X3_aimModels rfl rfl rfl (by decide +kernel) ⟨(Nat.le_of_ble_eq_true rfl), (Nat.le_of_ble_eq_true rfl)⟩) hE hP hD hS hA 0 rfl rfl rfl hl.1 rfl (Nat.le_of_ble_eq_true rfl) dX3_restart_58 ⟨(Nat.le_of_ble_eq_true rfl), (Nat.le_of_ble_eq_true rfl)⟩) hS (fun H locs hP hD hS => ?_)
        have hP : va_P D vwCl (prW cI cL cM a (k_am u_1)) H := hP
        have hD : va_D A (prW cI cL cM a (k_am u_1)) := hD
        subst hu_1
        have hw9 : (prW cI cL cM a (k_am (k_rc (ks_er (ks_bt (ks_ph (ks_nd (ks_la (ks_mo k (mapM o_fgt (k_n k) (k_mo k))) (fiI 3 0 (k_la k))) 1) 0) 0) 0)))) = (prW cI cL cM a (k_rs k)) := by rfl
        rw [hw9] at hP hD
        exact W.vret hx hb hr (fun t ht hW => ⟨⟨(), rfl, trivial, by rw [ht]; exact hP, hD⟩, hS.F ht⟩) hS.2.2 dX3_restart_61
      · have cj : ¬ (nI (k_n k)) ≤ (nI j) := cj
        have hjn : j < k_n k := nge_N (by omega) (by omega) cj
        have hm6 : j < 6 := by omega
        refine lv_aload_n hx hb dX3_restart_10 rfl (lv_at hl 1 rfl) ?_
        refine va_get (D := D) (ci := 3) (v := .ref (a 8)) (C := RX3) (T := TX3) (N := 7) hx hb hts (fun _ h => List.mem_cons_of_mem _ (List.mem_append_left _ (List.mem_append_right _ h))) hown hK hP 0 rfl rfl 0 (by decide) (hts _ (List.mem_of_getElem? (i := 2) rfl)) (fun _ h9 => h9) rfl dX3_restart_11 ?_
        refine lv_iload_n hx hb dX3_restart_14 rfl (lv_at hl 0 rfl) ?_
        refine aldN hx hb hK hP 1 2 rfl rfl j (hm6) (Nat.le_of_ble_eq_true rfl) rfl dX3_restart_15 ?_
        refine kV (rV (As := []) (rest := []) ⟨hx, hb, hml, hown, hts⟩ (c_X2_forget l D cI cL cM _ (a (11 + 4 * j)) (a (12 + 4 * j)) (a (13 + 4 * j)) (a (14 + 4 * j)) ((mapM o_fgt j (k_mo k)) j)  ) (cwV 0 hts gX3_restart_X2_forget rfl rfl rfl (by decide +kernel) ⟨(Nat.le_of_ble_eq_true rfl), (Nat.le_of_ble_eq_true rfl)⟩) hE hP hD [3 + 4 * j, 4 + 4 * j, 5 + 4 * j, 6 + 4 * j] (prW_nd hm6) (prW_C cI cL cM a _ hm6) rfl rfl rfl hl.1 rfl (Nat.le_of_ble_eq_true rfl) dX3_restart_16 ⟨(Nat.le_of_ble_eq_true rfl), (Nat.le_of_ble_eq_true rfl)⟩) hP hD hS hA (is := [3 + 4 * j, 4 + 4 * j, 5 + 4 * j, 6 + 4 * j]) (prW_C cI cL cM a _ hm6) rfl (fun H locs hP hD hS => ?_)
        rw [prW_put cI cL cM a _ hm6] at hP hD
        have hP : va_P D vwCl (prW cI cL cM a (ks_mo k (setM (mapM o_fgt j (k_mo k)) j (o_fgt ((mapM o_fgt j (k_mo k)) j))))) H := hP
        have hD : va_D A (prW cI cL cM a (ks_mo k (setM (mapM o_fgt j (k_mo k)) j (o_fgt ((mapM o_fgt j (k_mo k)) j))))) := hD
        refine lv_iinc (v := nI (j + 1)) (lv' := [(1, .int (nI (j + 1))), (0, .ref (a 7))]) hx hb dX3_restart_19 hl (k := 0) rfl (nI_1 _) (by decide) rfl (fun ls hl => ?_)
        refine lv_goto (tgt := 2) hx hb dX3_restart_22 (by decide) ?_
        rw [mapM_s] at hP hD
        exact ih_lp2 (j + 1) (by omega) (by omega) _ _ hP hD hS ls (lv_sub hl [0, 1] rfl)
  have e0 : (prW cI cL cM a k) = (prW cI cL cM a (ks_mo k (mapM o_fgt 0 (k_mo k)))) := by rw [mapM_0]; rfl
  rw [e0] at hP hD
  exact lp2 _ 0 (Nat.zero_le _) (Nat.lt_succ_self _) _ _ hP hD hS ls (lv_sub hl [0, 1] rfl)

set_option maxHeartbeats 4000000 in
set_option maxRecDepth 100000 in
theorem c_X3_takeModel (l : Launch) (D : va_G) (cI cL cM : ClassId) (A : Nat → Prop) (a : Nat → Nat) (k : Pr) (x y t : Int32) (hm6 : k_n k < 6) : mV l yX3_takeModel wsX3_takeModel ({ frames := 5, cells := 0, slots := 0, locals := 107 }) D (tB cI cL cM) A [.ref (a 7), .int x, .int y, .int t] (prW cI cL cM a k) (prW cI cL cM a (k_tk k x y t)) := by
  refine Met.ofW (cc := cX3_takeModel) (maxL := 4) (ret := none) (by decide) rfl ?_
  intro p e s m args below meth c s₁ B hml hv
  obtain ⟨rfl, hP, hE, hD, hA⟩ := hv
  have hK := hE.1
  have hx := B.exec
  have hb := B.bytes
  have hr := B.returns
  have hts := atoms_spec (ws := wsX3_takeModel) B.pre
  have hown : s.vm.findClass RX3 = some m.cls := findClass_of_methodNamed B.named
  have hlocks := B.notSynchronized
  have hS : va_S A s.heap s.heap [] := va_S.rf
  have hl := lv_entry ([.ref (a 7), .int x, .int y, .int t]) (n := 4) (Nat.le_of_ble_eq_true rfl)
  rw [lg_entry_eq]
  generalize (lg_sl ([.ref (a 7), .int x, .int y, .int t]) ++ List.replicate (4 - (lg_sl ([.ref (a 7), .int x, .int y, .int t])).length) Slot.unset).toArray = ls at hl ⊢
  have hl : lv_has ls 4 [(0, .ref (a 7)), (1, .int x), (2, .int y), (3, .int t)] := hl
  refine lv_aload_n hx hb dX3_takeModel_0 rfl (lv_at hl 0 rfl) ?_
  refine va_get (D := D) (ci := 3) (v := .int (nI (k_n k))) (C := RX3) (T := TX3) (N := 7) hx hb hts (fun _ h => List.mem_cons_of_mem _ (List.mem_append_left _ (List.mem_append_right _ h))) hown hK hP 0 rfl rfl 1 (by decide) (hts _ (List.mem_of_getElem? (i := 1) rfl)) (fun _ h9 => h9) rfl dX3_takeModel_1 ?_
  refine lv_if_lt (tgt := 45) hx hb dX3_takeModel_4 (by decide) (fun c_1 => absurd c_1 (nI_pos (by omega))) (fun c_1 => ?_)
  refine lv_aload_n hx hb dX3_takeModel_7 rfl (lv_at hl 0 rfl) ?_
  refine va_get (D := D) (ci := 3) (v := .int (nI (k_n k))) (C := RX3) (T := TX3) (N := 7) hx hb hts (fun _ h => List.mem_cons_of_mem _ (List.mem_append_left _ (List.mem_append_right _ h))) hown hK hP 0 rfl rfl 1 (by decide) (hts _ (List.mem_of_getElem? (i := 1) rfl)) (fun _ h9 => h9) rfl dX3_takeModel_8 ?_
  refine lv_bipush (v := 6) hx hb dX3_takeModel_11 (by decide) ?_
  refine lv_icmp_ge (tgt := 45) hx hb dX3_takeModel_13 (by decide) (fun c_2 => absurd c_2 (fun h9 => absurd (ge_N (a := 6) (by omega) (by omega) h9) (by omega))) (fun c_2 => ?_)
  refine lv_aload_n hx hb dX3_takeModel_16 rfl (lv_at hl 0 rfl) ?_
  refine va_get (D := D) (ci := 3) (v := .ref (a 8)) (C := RX3) (T := TX3) (N := 7) hx hb hts (fun _ h => List.mem_cons_of_mem _ (List.mem_append_left _ (List.mem_append_right _ h))) hown hK hP 0 rfl rfl 0 (by decide) (hts _ (List.mem_of_getElem? (i := 2) rfl)) (fun _ h9 => h9) rfl dX3_takeModel_17 ?_
  refine lv_aload_n hx hb dX3_takeModel_20 rfl (lv_at hl 0 rfl) ?_
  refine va_get (D := D) (ci := 3) (v := .int (nI (k_n k))) (C := RX3) (T := TX3) (N := 7) hx hb hts (fun _ h => List.mem_cons_of_mem _ (List.mem_append_left _ (List.mem_append_right _ h))) hown hK hP 0 rfl rfl 1 (by decide) (hts _ (List.mem_of_getElem? (i := 1) rfl)) (fun _ h9 => h9) rfl dX3_takeModel_21 ?_
  refine aldN hx hb hK hP 1 2 rfl rfl (k_n k) (hm6) (Nat.le_of_ble_eq_true rfl) rfl dX3_takeModel_24 ?_
  refine lv_iload_n hx hb dX3_takeModel_25 rfl (lv_at hl 1 rfl) ?_
  refine lv_iload_n hx hb dX3_takeModel_26 rfl (lv_at hl 2 rfl) ?_
  refine lv_iload_n hx hb dX3_takeModel_27 rfl (lv_at hl 3 rfl) ?_
  refine kV (rV (As := [.int x, .int y, .int t]) (rest := []) ⟨hx, hb, hml, hown, hts⟩ (c_X2_shape l D cI cL cM _ (a (11 + 4 * (k_n k))) (a (12 + 4 * (k_n k))) (a (13 + 4 * (k_n k))) (a (14 + 4 * (k_n k))) ((k_mo k) (k_n k)) x y t ) (cwV 3 hts gX3_takeModel_X2_shape rfl rfl rfl (by decide +kernel) ⟨(Nat.le_of_ble_eq_true rfl), (Nat.le_of_ble_eq_true rfl)⟩) hE hP hD [3 + 4 * (k_n k), 4 + 4 * (k_n k), 5 + 4 * (k_n k), 6 + 4 * (k_n k)] (prW_nd hm6) (prW_C cI cL cM a _ hm6) rfl rfl rfl hl.1 rfl (Nat.le_of_ble_eq_true rfl) dX3_takeModel_28 ⟨(Nat.le_of_ble_eq_true rfl), (Nat.le_of_ble_eq_true rfl)⟩) hP hD hS hA (is := [3 + 4 * (k_n k), 4 + 4 * (k_n k), 5 + 4 * (k_n k), 6 + 4 * (k_n k)]) (prW_C cI cL cM a _ hm6) rfl (fun H locs hP hD hS => ?_)
  rw [prW_put cI cL cM a _ hm6] at hP hD
  have hP : va_P D vwCl (prW cI cL cM a (ks_mo k (setM (k_mo k) (k_n k) (o_shp ((k_mo k) (k_n k)) x y t)))) H := hP
  have hD : va_D A (prW cI cL cM a (ks_mo k (setM (k_mo k) (k_n k) (o_shp ((k_mo k) (k_n k)) x y t)))) := hD
  refine lv_aload_n hx hb dX3_takeModel_31 rfl (lv_at hl 0 rfl) ?_
  refine lv_dup hx hb dX3_takeModel_32 rfl ?_
  refine va_get (D := D) (ci := 3) (v := .int (nI (k_n k))) (C := RX3) (T := TX3) (N := 7) hx hb hts (fun _ h => List.mem_cons_of_mem _ (List.mem_append_left _ (List.mem_append_right _ h))) hown hK hP 0 rfl rfl 1 (by decide) (hts _ (List.mem_of_getElem? (i := 1) rfl)) (fun _ h9 => h9) rfl dX3_takeModel_33 ?_
  refine lv_iconst (v := 1) hx hb dX3_takeModel_36 (by decide) ?_
  refine lv_iadd hx hb dX3_takeModel_37 ?_
  refine topI (y := nI ((k_n k) + 1)) (nI_1 _) ?_
  refine va_put (D := D) (ci := 3) (v := .int (nI ((k_n k) + 1))) (ty := .int) (C := RX3) (T := TX3) (N := 7) hx hb hts (fun _ h => List.mem_cons_of_mem _ (List.mem_append_left _ (List.mem_append_right _ h))) tyX3 tyX3_ok nmX3 hown hK hP hD hS 0 rfl rfl 1 (by decide) (hts _ (List.mem_of_getElem? (i := 1) rfl)) (fun _ h9 => h9) rfl (by decide +kernel) rfl rfl (Nat.le_of_ble_eq_true rfl) dX3_takeModel_38 (fun H locs hP hD hS => ?_)
  have hP : va_P D vwCl (prW cI cL cM a (ks_n (ks_mo k (setM (k_mo k) (k_n k) (o_shp ((k_mo k) (k_n k)) x y t))) ((k_n k) + 1))) H := hP
  have hD : va_D A (prW cI cL cM a (ks_n (ks_mo k (setM (k_mo k) (k_n k) (o_shp ((k_mo k) (k_n k)) x y t))) ((k_n k) + 1))) := hD
  refine lv_aload_n hx hb dX3_takeModel_41 rfl (lv_at hl 0 rfl) ?_
  refine kVa (rVa (As := []) (rest := []) ⟨hx, hb, hml, hown, hts⟩ (c_X3_restart l D cI cL cM _ a (ks_n (ks_mo k (setM (k_mo k) (k_n k) (o_shp ((k_mo k) (k_n k)) x y t))) ((k_n k) + 1))  (show k_n k + 1 ≤ 6 from hm6)) (cwV 0 hts gX3_takeModel_X3_restart rfl rfl rfl (by decide +kernel) ⟨(Nat.le_of_ble_eq_true rfl), (Nat.le_of_ble_eq_true rfl)⟩) hE hP hD hS hA 0 rfl rfl rfl hl.1 rfl (Nat.le_of_ble_eq_true rfl) dX3_takeModel_42 ⟨(Nat.le_of_ble_eq_true rfl), (Nat.le_of_ble_eq_true rfl)⟩) hS (fun H locs hP hD hS => ?_)
  have hP : va_P D vwCl (prW cI cL cM a (k_rs (ks_n (ks_mo k (setM (k_mo k) (k_n k) (o_shp ((k_mo k) (k_n k)) x y t))) ((k_n k) + 1)))) H := hP
  have hD : va_D A (prW cI cL cM a (k_rs (ks_n (ks_mo k (setM (k_mo k) (k_n k) (o_shp ((k_mo k) (k_n k)) x y t))) ((k_n k) + 1)))) := hD
  have hw9 : (prW cI cL cM a (k_rs (ks_n (ks_mo k (setM (k_mo k) (k_n k) (o_shp ((k_mo k) (k_n k)) x y t))) ((k_n k) + 1)))) = (prW cI cL cM a (k_tk k x y t)) := by rfl
  rw [hw9] at hP hD
  exact W.vret hx hb hr (fun t ht hW => ⟨⟨(), rfl, trivial, by rw [ht]; exact hP, hD⟩, hS.F ht⟩) hS.2.2 dX3_takeModel_45

set_option maxHeartbeats 4000000 in
set_option maxRecDepth 100000 in
theorem c_X3_dropModel (l : Launch) (D : va_G) (cI cL cM : ClassId) (A : Nat → Prop) (a : Nat → Nat) (k : Pr) (hn6 : k_n k ≤ 6) (h0 : 0 < k_n k) : mV l yX3_dropModel wsX3_dropModel ({ frames := 5, cells := 0, slots := 0, locals := 107 }) D (tB cI cL cM) A [.ref (a 7)] (prW cI cL cM a k) (prW cI cL cM a (k_dr k)) := by
  refine Met.ofW (cc := cX3_dropModel) (maxL := 1) (ret := none) (by decide) rfl ?_
  intro p e s m args below meth c s₁ B hml hv
  obtain ⟨rfl, hP, hE, hD, hA⟩ := hv
  have hK := hE.1
  have hx := B.exec
  have hb := B.bytes
  have hr := B.returns
  have hts := atoms_spec (ws := wsX3_dropModel) B.pre
  have hown : s.vm.findClass RX3 = some m.cls := findClass_of_methodNamed B.named
  have hlocks := B.notSynchronized
  have hS : va_S A s.heap s.heap [] := va_S.rf
  have hl := lv_entry ([.ref (a 7)]) (n := 1) (Nat.le_of_ble_eq_true rfl)
  rw [lg_entry_eq]
  generalize (lg_sl ([.ref (a 7)]) ++ List.replicate (1 - (lg_sl ([.ref (a 7)])).length) Slot.unset).toArray = ls at hl ⊢
  have hl : lv_has ls 1 [(0, .ref (a 7))] := hl
  refine lv_aload_n hx hb dX3_dropModel_0 rfl (lv_at hl 0 rfl) ?_
  refine va_get (D := D) (ci := 3) (v := .int (nI (k_n k))) (C := RX3) (T := TX3) (N := 7) hx hb hts (fun _ h => List.mem_cons_of_mem _ (List.mem_append_left _ (List.mem_append_right _ h))) hown hK hP 0 rfl rfl 1 (by decide) (hts _ (List.mem_of_getElem? (i := 1) rfl)) (fun _ h9 => h9) rfl dX3_dropModel_1 ?_
  refine lv_if_le (tgt := 21) hx hb dX3_dropModel_4 (by decide) (fun c_1 => absurd c_1 (nI_nle h0 (by omega))) (fun c_1 => ?_)
  refine lv_aload_n hx hb dX3_dropModel_7 rfl (lv_at hl 0 rfl) ?_
  refine lv_dup hx hb dX3_dropModel_8 rfl ?_
  refine va_get (D := D) (ci := 3) (v := .int (nI (k_n k))) (C := RX3) (T := TX3) (N := 7) hx hb hts (fun _ h => List.mem_cons_of_mem _ (List.mem_append_left _ (List.mem_append_right _ h))) hown hK hP 0 rfl rfl 1 (by decide) (hts _ (List.mem_of_getElem? (i := 1) rfl)) (fun _ h9 => h9) rfl dX3_dropModel_9 ?_
  refine lv_iconst (v := 1) hx hb dX3_dropModel_12 (by decide) ?_
  refine lv_isub hx hb dX3_dropModel_13 ?_
  refine topI (y := nI (k_n k - 1)) (pk_sub (b := 1) h0) ?_
  refine va_put (D := D) (ci := 3) (v := .int (nI (k_n k - 1))) (ty := .int) (C := RX3) (T := TX3) (N := 7) hx hb hts (fun _ h => List.mem_cons_of_mem _ (List.mem_append_left _ (List.mem_append_right _ h))) tyX3 tyX3_ok nmX3 hown hK hP hD hS 0 rfl rfl 1 (by decide) (hts _ (List.mem_of_getElem? (i := 1) rfl)) (fun _ h9 => h9) rfl (by decide +kernel) rfl rfl (Nat.le_of_ble_eq_true rfl) dX3_dropModel_14 (fun H locs hP hD hS => ?_)
  have hP : va_P D vwCl (prW cI cL cM a (ks_n k (k_n k - 1))) H := hP
  have hD : va_D A (prW cI cL cM a (ks_n k (k_n k - 1))) := hD
  refine lv_aload_n hx hb dX3_dropModel_17 rfl (lv_at hl 0 rfl) ?_
  refine kVa (rVa (As := []) (rest := []) ⟨hx, hb, hml, hown, hts⟩ (c_X3_restart l D cI cL cM _ a (ks_n k (k_n k - 1))  (show k_n k - 1 ≤ 6 by omega)) (cwV 0 hts gX3_dropModel_X3_restart rfl rfl rfl (by decide +kernel) ⟨(Nat.le_of_ble_eq_true rfl), (Nat.le_of_ble_eq_true rfl)⟩) hE hP hD hS hA 0 rfl rfl rfl hl.1 rfl (Nat.le_of_ble_eq_true rfl) dX3_dropModel_18 ⟨(Nat.le_of_ble_eq_true rfl), (Nat.le_of_ble_eq_true rfl)⟩) hS (fun H locs hP hD hS => ?_)
  have hP : va_P D vwCl (prW cI cL cM a (k_rs (ks_n k (k_n k - 1)))) H := hP
  have hD : va_D A (prW cI cL cM a (k_rs (ks_n k (k_n k - 1)))) := hD
  have hw9 : (prW cI cL cM a (k_rs (ks_n k (k_n k - 1)))) = (prW cI cL cM a (k_dr k)) := by rfl
  rw [hw9] at hP hD
  exact W.vret hx hb hr (fun t ht hW => ⟨⟨(), rfl, trivial, by rw [ht]; exact hP, hD⟩, hS.F ht⟩) hS.2.2 dX3_dropModel_21
