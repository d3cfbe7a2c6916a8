/-! ===== the reference: loops over the text ===== -/
theorem isIab {q : Int32} {a b : Nat} (ha : a < 1073741824) (hb : b < 1073741824) (h : ¬ isI q (nI a) (nI b) = 0) : ∃ j : Nat, a ≤ j ∧ j ≤ b ∧ q = nI j := by
  have e1 : (nI a).toInt = (a : Int) := nI_toInt (by omega)
  have e2 : (nI b).toInt = (b : Int) := nI_toInt (by omega)
  unfold isI at h
  split at h
  · exact absurd rfl h
  · rename_i h1
    split at h
    · exact absurd rfl h
    · rename_i h2
      rw [Int32.lt_iff_toInt_lt, e1] at h1
      rw [Int32.lt_iff_toInt_lt, e2] at h2
      refine ⟨q.toInt.toNat, by omega, by omega, Int32.toInt_inj.mp ?_⟩
      rw [nI_toInt (by omega)]
      omega
theorem m1neg {t : Nat} (ht : t < 1073741824) (h : nI t - 1 < (0 : Int32)) : t = 0 := by
  have e : (nI t - 1 : Int32).toInt = (t : Int) - 1 := pk_sub_toInt (b := 1) ht (by omega)
  rw [Int32.lt_iff_toInt_lt, e, tI0] at h
  omega
theorem m1pos {t : Nat} (ht : t < 1073741824) (h : ¬ nI t - 1 < (0 : Int32)) : 1 ≤ t := by
  have e : (nI t - 1 : Int32).toInt = (t : Int) - 1 := pk_sub_toInt (b := 1) ht (by omega)
  rw [Int32.lt_iff_toInt_lt, e, tI0] at h
  omega
theorem m1dec {t : Nat} (ht : 1 ≤ t) : nI t - 1 + Int32.ofInt (-1) = nI (t - 1) - 1 := by
  rw [show nI t - 1 = nI (t - 1) from pk_sub (b := 1) ht, Int32.sub_eq_add_neg]
  rfl
theorem m1eq {t : Nat} (ht : 1 ≤ t) : nI t - 1 = nI (t - 1) := pk_sub (b := 1) ht
theorem r_fd_s {x : Int64} {k : Nat} {v : RS} (hk : 1 ≤ k) : r_fd x (k - 1) (rs_sz (rs_tx v (upd (r_tx v) (r_sz v) (fbR x (k - 1)))) (r_sz v + 1)) = r_fd x k v := by
  obtain ⟨j, rfl⟩ : ∃ j, k = j + 1 := ⟨k - 1, by omega⟩
  rfl
theorem rs_tx_tx (u : RS) (x y : Nat → Int32) : rs_tx (rs_tx u x) y = rs_tx u y := rfl
theorem r_fl_st (u : RS) (v : Int32) (n : Nat) (f : Nat → Int32) (k : Nat) : rs_tx (rs_tx u (r_fl v n f k)) (upd (r_tx (rs_tx u (r_fl v n f k))) (n + k) v) = rs_tx u (r_fl v n f (k + 1)) := by
  rw [rs_tx_tx, r_tx_tx]
  rfl
def absI (x : Int32) : Int32 := if (0 : Int32) ≤ x then x else 0 - x
def dfR (u : RS) : Nat → Int32
  | 0 => absI (nI (r_sz u) - nI (r_mk u))
  | k + 1 => dfR u k + (if r_tx u k = r_ou u k then 0 else 1)

set_option maxHeartbeats 4000000 in
set_option maxRecDepth 100000 in
theorem c_X5_feed (l : Launch) (D : va_G) (cI cL cM : ClassId) (A : Nat → Prop) (b : Nat → Nat) (u : RS) (x : Int64) (q : Int32) (hz9 : r_sz u ≤ 80) : mI l yX5_feed wsX5_feed ({ frames := 1, cells := 0, slots := 0, locals := 22 }) D (tB cI cL cM) A [.ref (b 0), .long x, .int q] (rfW cI b u) (if isI q 1 8 = 0 then 0 else if r_sz u + q.toNatClampNeg ≤ 80 then nI (r_sz u + q.toNatClampNeg) else 0) (rfW cI b (if isI q 1 8 = 0 then (rs_th (rs_th u 0) 1) else if r_sz u + q.toNatClampNeg ≤ 80 then r_fd x q.toNatClampNeg (rs_th u 0) else (rs_th (rs_th u 0) 2))) := by
  refine Met.ofW (cc := cX5_feed) (maxL := 5) (ret := (some .int)) (by decide) rfl ?_
  intro p e s m args below meth c s₁ B hml hv
  obtain ⟨rfl, hP, hE, hD, hA⟩ := hv
  have hK := hE.1
  have hx := B.exec
  have hb := B.bytes
  have hr := B.returns
  have hts := atoms_spec (ws := wsX5_feed) B.pre
  have hown : s.vm.findClass RX5 = some m.cls := findClass_of_methodNamed B.named
  have hlocks := B.notSynchronized
  have hS : va_S A s.heap s.heap [] := va_S.rf
  have hl := lv_entry ([.ref (b 0), .long x, .int q]) (n := 5) (Nat.le_of_ble_eq_true rfl)
  rw [lg_entry_eq]
  generalize (lg_sl ([.ref (b 0), .long x, .int q]) ++ List.replicate (5 - (lg_sl ([.ref (b 0), .long x, .int q])).length) Slot.unset).toArray = ls at hl ⊢
  have hl : lv_has ls 5 [(0, .ref (b 0)), (1, .long x), (3, .int q)] := hl
  refine lv_aload_n hx hb dX5_feed_0 rfl (lv_at hl 0 rfl) ?_
  refine lv_iconst (v := 0) hx hb dX5_feed_1 (by decide) ?_
  refine va_put (D := D) (ci := 5) (v := .int 0) (ty := .int) (C := RX5) (T := TX5) (N := 22) hx hb hts (fun _ h => List.mem_cons_of_mem _ (List.mem_append_right _ h)) tyX5 tyX5_ok nmX5 hown hK hP hD hS 0 rfl rfl 0 (by decide) (hts _ (List.mem_of_getElem? (i := 1) rfl)) (fun _ h9 => h9) rfl (by decide +kernel) rfl rfl (Nat.le_of_ble_eq_true rfl) dX5_feed_2 (fun H locs hP hD hS => ?_)
  rw [rfW_th] at hP hD
  have hP : va_P D vwCl (rfW cI b (rs_th u 0)) H := hP
  have hD : va_D A (rfW cI b (rs_th u 0)) := hD
  refine lv_iload_n hx hb dX5_feed_5 rfl (lv_at hl 2 rfl) ?_
  refine lv_iconst (v := 1) hx hb dX5_feed_6 (by decide) ?_
  refine lv_bipush (v := 8) hx hb dX5_feed_7 (by decide) ?_
  refine kI (rS (As := [.int q, .int 1, .int 8]) (rest := []) ⟨hx, hb, hml, hown, hts⟩ (c_X5_isIn l D cI cL cM _ q 1 8 ) (va_cwS 3 hts gX5_feed_X5_isIn rfl rfl rfl (by decide +kernel) ⟨(Nat.le_of_ble_eq_true rfl), (Nat.le_of_ble_eq_true rfl)⟩) hE hP hD [] rfl rfl rfl hl.1 rfl (Nat.le_of_ble_eq_true rfl) dX5_feed_9 ⟨(Nat.le_of_ble_eq_true rfl), (Nat.le_of_ble_eq_true rfl)⟩) hP hD hS hA (is := []) rfl rfl (fun H locs hP hD hS => ?_)
  rw [putW_nil] at hP hD
  have hP : va_P D vwCl (rfW cI b (rs_th u 0)) H := hP
  have hD : va_D A (rfW cI b (rs_th u 0)) := hD
  refine lv_if_ne (tgt := 21) hx hb dX5_feed_12 (by decide) (fun cm => ?_) (fun cm => ?_)
  · replace cm : ¬ (isI q 1 8) = (0 : Int32) := cm
    obtain ⟨m9, hm1, hm8, hqe⟩ := isIab (a := 1) (b := 8) (Nat.le_of_ble_eq_true rfl) (Nat.le_of_ble_eq_true rfl) cm
    have hcl : q.toNatClampNeg = m9 := clN hqe (Nat.lt_succ_of_le hm8) (Nat.le_of_ble_eq_true rfl)
    refine lv_aload_n hx hb dX5_feed_21 rfl (lv_at hl 0 rfl) ?_
    refine va_get (D := D) (ci := 5) (v := .int (nI (r_sz u))) (C := RX5) (T := TX5) (N := 22) hx hb hts (fun _ h => List.mem_cons_of_mem _ (List.mem_append_right _ h)) hown hK hP 0 rfl rfl 5 (by decide) (hts _ (List.mem_of_getElem? (i := 2) rfl)) (fun _ h9 => h9) rfl dX5_feed_22 ?_
    refine lv_iload_n hx hb dX5_feed_25 rfl (lv_at hl 2 rfl) ?_
    refine lv_iadd hx hb dX5_feed_26 ?_
    refine topI (y := nI (r_sz u + m9)) (by rw [hqe]; exact nI_add _ _) ?_
    refine lv_bipush (v := 80) hx hb dX5_feed_27 (by decide) ?_
    refine lv_icmp_le (tgt := 38) hx hb dX5_feed_29 (by decide) (fun cs => ?_) (fun cs => ?_)
    · replace cs : (nI (r_sz u + m9)) ≤ (80 : Int32) := cs
      have hle : r_sz u + m9 ≤ 80 := ge_N (b := 80) (by omega) (by omega) cs
      refine lv_iload_n hx hb dX5_feed_38 rfl (lv_at hl 2 rfl) ?_
      refine topI (y := nI m9) (hqe) ?_
      refine lv_iconst (v := 1) hx hb dX5_feed_39 (by decide) ?_
      refine lv_isub hx hb dX5_feed_40 ?_
      refine lv_istore (lv' := [(4, .int ((nI m9) - 1)), (0, .ref (b 0)), (1, .long x), (3, .int q)]) hx hb dX5_feed_41 hl (by decide) rfl (fun ls hl => ?_)
      have lpf : ∀ (n9 : Nat) (k9 : Nat) (v : RS) (hk9 : k9 ≤ m9) (hv : r_fd x k9 v = r_fd x m9 (rs_th u 0)) (hsv : r_sz v + k9 = r_sz u + m9), k9 < n9 → ∀ (H : Heap) (locs : List Loc), va_P D vwCl (rfW cI b v) H → va_D A (rfW cI b v) → va_S A s.heap H locs → ∀ (ls : Array Slot), lv_has ls 5 [(4, .int (nI k9 - 1)), (0, .ref (b 0)), (1, .long x), (3, .int q)] → W p l e (headSpec wsX5_feed ({ frames := 1, cells := 0, slots := 0, locals := 22 })).room s m (([.ref (b 0), .long x, .int q] : List Value).toArray) below meth c H locs 0 0 (MQ below (va_Qi (fun x (_ : Unit) => x = (if isI q 1 8 = 0 then 0 else if r_sz u + q.toNatClampNeg ≤ 80 then nI (r_sz u + q.toNatClampNeg) else 0)) (fun _ t => hq D A (rfW cI b (if isI q 1 8 = 0 then (rs_th (rs_th u 0) 1) else if r_sz u + q.toNatClampNeg ≤ 80 then r_fd x q.toNatClampNeg (rs_th u 0) else (rs_th (rs_th u 0) 2))) t) A) (([.ref (b 0), .long x, .int q] : List Value).toArray) s 0 0 A) (F0 m 43 ls []) := by
        intro n9
        induction n9 with
        | zero => intro k9 v hk9 hv hsv hm9; exact absurd hm9 (Nat.not_lt_zero _)
        | succ n9 ih_lpf =>
          intro k9 v hk9 hv hsv hm9 H locs hP hD hS ls hl
          refine lv_iload hx hb dX5_feed_43 (lv_at hl 0 rfl) ?_
          refine lv_if_lt (tgt := 85) hx hb dX5_feed_45 (by decide) (fun ct => ?_) (fun ct => ?_)
          · replace ct : (nI k9 - 1) < (0 : Int32) := ct
            have h0 := m1neg (by omega) ct
            have hsv0 : r_sz v = r_sz u + m9 := by omega
            have hv0 : v = r_fd x m9 (rs_th u 0) := by rw [h0] at hv; exact hv
            refine lv_aload_n hx hb dX5_feed_85 rfl (lv_at hl 1 rfl) ?_
            refine va_get (D := D) (ci := 5) (v := .int (nI (r_sz v))) (C := RX5) (T := TX5) (N := 22) hx hb hts (fun _ h => List.mem_cons_of_mem _ (List.mem_append_right _ h)) hown hK hP 0 rfl rfl 5 (by decide) (hts _ (List.mem_of_getElem? (i := 2) rfl)) (fun _ h9 => h9) rfl dX5_feed_86 ?_
            have hw9 : (rfW cI b v) = (rfW cI b (if isI q 1 8 = 0 then (rs_th (rs_th u 0) 1) else if r_sz u + q.toNatClampNeg ≤ 80 then r_fd x q.toNatClampNeg (rs_th u 0) else (rs_th (rs_th u 0) 2))) := by first | (rw [if_pos cm]; try rfl) | (rw [if_neg cm, hcl, if_neg hle]; try rfl) | (rw [if_neg cm, hcl, if_pos hle]; rw [← hv0])
            rw [hw9] at hP hD
            exact W.iret (v := nI (r_sz v)) hx hb hr (fun t ht hW => ⟨⟨(nI (r_sz v)), (), rfl, by (first | (rw [if_pos cm]) | (rw [if_neg cm, hcl, if_neg hle]) | (rw [if_neg cm, hcl, if_pos hle, hsv0])), by rw [ht]; exact hP, hD⟩, hS.F ht⟩) hS.2.2 dX5_feed_89
          · replace ct : ¬ (nI k9 - 1) < (0 : Int32) := ct
            have hk1 := m1pos (by omega) ct
            refine lv_aload_n hx hb dX5_feed_48 rfl (lv_at hl 1 rfl) ?_
            refine va_get (D := D) (ci := 5) (v := .ref (b 4)) (C := RX5) (T := TX5) (N := 22) hx hb hts (fun _ h => List.mem_cons_of_mem _ (List.mem_append_right _ h)) hown hK hP 0 rfl rfl 6 (by decide) (hts _ (List.mem_of_getElem? (i := 3) rfl)) (fun _ h9 => h9) rfl dX5_feed_49 ?_
            refine lv_aload_n hx hb dX5_feed_52 rfl (lv_at hl 1 rfl) ?_
            refine va_get (D := D) (ci := 5) (v := .int (nI (r_sz v))) (C := RX5) (T := TX5) (N := 22) hx hb hts (fun _ h => List.mem_cons_of_mem _ (List.mem_append_right _ h)) hown hK hP 0 rfl rfl 5 (by decide) (hts _ (List.mem_of_getElem? (i := 2) rfl)) (fun _ h9 => h9) rfl dX5_feed_53 ?_
            refine lv_lload_n hx hb dX5_feed_56 rfl (lv_at hl 2 rfl) ?_
            refine lv_bipush (v := 8) hx hb dX5_feed_57 (by decide) ?_
            refine lv_iload hx hb dX5_feed_59 (lv_at hl 0 rfl) ?_
            refine topI (y := nI (k9 - 1)) (m1eq hk1) ?_
            refine lv_imul hx hb dX5_feed_61 ?_
            refine topI (y := nI (8 * (k9 - 1))) (by rw [show (8 : Int32) = nI 8 from rfl, pk_mul]) ?_
            refine lv_lshr hx hb dX5_feed_62 rfl ?_
            refine lv_ldc2 hx hb hown (hts _ (List.mem_of_getElem? (i := 4) rfl)) dX5_feed_63 ?_
            refine lv_land hx hb dX5_feed_66 ?_
            refine lv_l2i hx hb dX5_feed_67 rfl ?_
            refine topI (y := fbR x (k9 - 1)) (rfl) ?_
            refine istN hx hb hK hP hD hS 4 0 rfl rfl (r_sz v) (by omega) ((Nat.le_of_ble_eq_true rfl)) dX5_feed_68 (fun H locs hP hD hS => ?_)
            rw [rfW_tx] at hP hD
            have hP : va_P D vwCl (rfW cI b (rs_tx v (upd (r_tx v) (r_sz v) (fbR x (k9 - 1))))) H := hP
            have hD : va_D A (rfW cI b (rs_tx v (upd (r_tx v) (r_sz v) (fbR x (k9 - 1))))) := hD
            refine lv_aload_n hx hb dX5_feed_69 rfl (lv_at hl 1 rfl) ?_
            refine lv_dup hx hb dX5_feed_70 rfl ?_
            refine va_get (D := D) (ci := 5) (v := .int (nI (r_sz v))) (C := RX5) (T := TX5) (N := 22) hx hb hts (fun _ h => List.mem_cons_of_mem _ (List.mem_append_right _ h)) hown hK hP 0 rfl rfl 5 (by decide) (hts _ (List.mem_of_getElem? (i := 2) rfl)) (fun _ h9 => h9) rfl dX5_feed_71 ?_
            refine lv_iconst (v := 1) hx hb dX5_feed_74 (by decide) ?_
            refine lv_iadd hx hb dX5_feed_75 ?_
            refine topI (y := nI ((r_sz v) + 1)) (nI_1 _) ?_
            refine va_put (D := D) (ci := 5) (v := .int (nI ((r_sz v) + 1))) (ty := .int) (C := RX5) (T := TX5) (N := 22) hx hb hts (fun _ h => List.mem_cons_of_mem _ (List.mem_append_right _ h)) tyX5 tyX5_ok nmX5 hown hK hP hD hS 0 rfl rfl 5 (by decide) (hts _ (List.mem_of_getElem? (i := 2) rfl)) (fun _ h9 => h9) rfl (by decide +kernel) rfl rfl (Nat.le_of_ble_eq_true rfl) dX5_feed_76 (fun H locs hP hD hS => ?_)
            rw [rfW_sz] at hP hD
            have hP : va_P D vwCl (rfW cI b (rs_sz (rs_tx v (upd (r_tx v) (r_sz v) (fbR x (k9 - 1)))) ((r_sz v) + 1))) H := hP
            have hD : va_D A (rfW cI b (rs_sz (rs_tx v (upd (r_tx v) (r_sz v) (fbR x (k9 - 1)))) ((r_sz v) + 1))) := hD
            refine lv_iinc (v := nI (k9 - 1) - 1) (lv' := [(4, .int (nI (k9 - 1) - 1)), (0, .ref (b 0)), (1, .long x), (3, .int q)]) hx hb dX5_feed_79 hl (k := 0) rfl (m1dec hk1) (by decide) rfl (fun ls hl => ?_)
            refine lv_goto (tgt := 43) hx hb dX5_feed_82 (by decide) ?_
            exact ih_lpf (k9 - 1) (rs_sz (rs_tx v (upd (r_tx v) (r_sz v) (fbR x (k9 - 1)))) ((r_sz v) + 1)) (by omega) ((r_fd_s hk1).trans hv) (by rw [r_sz_sz]; omega) (by omega) _ _ hP hD hS ls (lv_sub hl [0, 1, 2, 3] rfl)
      exact lpf _ m9 (rs_th u 0) (Nat.le_refl _) (rfl) (rfl) (Nat.lt_succ_self _) _ _ hP hD hS ls (lv_sub hl [0, 1, 2, 3] rfl)
    · replace cs : ¬ (nI (r_sz u + m9)) ≤ (80 : Int32) := cs
      have hle : ¬ r_sz u + m9 ≤ 80 := fun h9 => cs ((nI_leI (b := 80) (by omega) (by omega)).mpr h9)
      refine lv_aload_n hx hb dX5_feed_32 rfl (lv_at hl 0 rfl) ?_
      refine lv_iconst (v := 2) hx hb dX5_feed_33 (by decide) ?_
      refine kIa (rVa (As := [.int 2]) (rest := []) ⟨hx, hb, hml, hown, hts⟩ (c_X5_no l D cI cL cM _ b (rs_th u 0) 2 ) (cwV 1 hts gX5_feed_X5_no rfl rfl rfl (by decide +kernel) ⟨(Nat.le_of_ble_eq_true rfl), (Nat.le_of_ble_eq_true rfl)⟩) hE hP hD hS hA 0 rfl rfl rfl hl.1 rfl (Nat.le_of_ble_eq_true rfl) dX5_feed_34 ⟨(Nat.le_of_ble_eq_true rfl), (Nat.le_of_ble_eq_true rfl)⟩) hS (fun H locs hP hD hS => ?_)
      have hP : va_P D vwCl (rfW cI b (rs_th (rs_th u 0) 2)) H := hP
      have hD : va_D A (rfW cI b (rs_th (rs_th u 0) 2)) := hD
      have hw9 : (rfW cI b (rs_th (rs_th u 0) 2)) = (rfW cI b (if isI q 1 8 = 0 then (rs_th (rs_th u 0) 1) else if r_sz u + q.toNatClampNeg ≤ 80 then r_fd x q.toNatClampNeg (rs_th u 0) else (rs_th (rs_th u 0) 2))) := by first | (rw [if_pos cm]; try rfl) | (rw [if_neg cm, hcl, if_neg hle]; try rfl) | (rw [if_neg cm, hcl, if_pos hle]; rw [← hv0])
      rw [hw9] at hP hD
      exact W.iret (v := (0)) hx hb hr (fun t ht hW => ⟨⟨(0), (), rfl, by (first | (rw [if_pos cm]) | (rw [if_neg cm, hcl, if_neg hle]) | (rw [if_neg cm, hcl, if_pos hle, hsv0])), by rw [ht]; exact hP, hD⟩, hS.F ht⟩) hS.2.2 dX5_feed_37
  · replace cm : (isI q 1 8) = (0 : Int32) := cm
    refine lv_aload_n hx hb dX5_feed_15 rfl (lv_at hl 0 rfl) ?_
    refine lv_iconst (v := 1) hx hb dX5_feed_16 (by decide) ?_
    refine kIa (rVa (As := [.int 1]) (rest := []) ⟨hx, hb, hml, hown, hts⟩ (c_X5_no l D cI cL cM _ b (rs_th u 0) 1 ) (cwV 1 hts gX5_feed_X5_no rfl rfl rfl (by decide +kernel) ⟨(Nat.le_of_ble_eq_true rfl), (Nat.le_of_ble_eq_true rfl)⟩) hE hP hD hS hA 0 rfl rfl rfl hl.1 rfl (Nat.le_of_ble_eq_true rfl) dX5_feed_17 ⟨(Nat.le_of_ble_eq_true rfl), (Nat.le_of_ble_eq_true rfl)⟩) hS (fun H locs hP hD hS => ?_)
    have hP : va_P D vwCl (rfW cI b (rs_th (rs_th u 0) 1)) H := hP
    have hD : va_D A (rfW cI b (rs_th (rs_th u 0) 1)) := hD
    have hw9 : (rfW cI b (rs_th (rs_th u 0) 1)) = (rfW cI b (if isI q 1 8 = 0 then (rs_th (rs_th u 0) 1) else if r_sz u + q.toNatClampNeg ≤ 80 then r_fd x q.toNatClampNeg (rs_th u 0) else (rs_th (rs_th u 0) 2))) := by first | (rw [if_pos cm]; try rfl) | (rw [if_neg cm, hcl, if_neg hle]; try rfl) | (rw [if_neg cm, hcl, if_pos hle]; rw [← hv0])
    rw [hw9] at hP hD
    exact W.iret (v := (0)) hx hb hr (fun t ht hW => ⟨⟨(0), (), rfl, by (first | (rw [if_pos cm]) | (rw [if_neg cm, hcl, if_neg hle]) | (rw [if_neg cm, hcl, if_pos hle, hsv0])), by rw [ht]; exact hP, hD⟩, hS.F ht⟩) hS.2.2 dX5_feed_20

set_option maxHeartbeats 4000000 in
set_option maxRecDepth 100000 in
theorem c_X5_fill (l : Launch) (D : va_G) (cI cL cM : ClassId) (A : Nat → Prop) (b : Nat → Nat) (u : RS) (v q : Int32) (hz9 : r_sz u ≤ 80) : mI l yX5_fill wsX5_fill ({ frames := 1, cells := 0, slots := 0, locals := 22 }) D (tB cI cL cM) A [.ref (b 0), .int v, .int q] (rfW cI b u) (if isI v 0 255 = 0 then 0 else if isI q 1 80 = 0 then 0 else if r_sz u + q.toNatClampNeg ≤ 80 then nI (r_sz u + q.toNatClampNeg) else 0) (rfW cI b (if isI v 0 255 = 0 then (rs_th (rs_th u 0) 1) else if isI q 1 80 = 0 then (rs_th (rs_th u 0) 1) else if r_sz u + q.toNatClampNeg ≤ 80 then rs_sz (rs_tx (rs_th u 0) (r_fl v (r_sz u) (r_tx u) q.toNatClampNeg)) (r_sz u + q.toNatClampNeg) else (rs_th (rs_th u 0) 2))) := by
  refine Met.ofW (cc := cX5_fill) (maxL := 4) (ret := (some .int)) (by decide) rfl ?_
  intro p e s m args below meth c s₁ B hml hv
  obtain ⟨rfl, hP, hE, hD, hA⟩ := hv
  have hK := hE.1
  have hx := B.exec
  have hb := B.bytes
  have hr := B.returns
  have hts := atoms_spec (ws := wsX5_fill) B.pre
  have hown : s.vm.findClass RX5 = some m.cls := findClass_of_methodNamed B.named
  have hlocks := B.notSynchronized
  have hS : va_S A s.heap s.heap [] := va_S.rf
  have hl := lv_entry ([.ref (b 0), .int v, .int q]) (n := 4) (Nat.le_of_ble_eq_true rfl)
  rw [lg_entry_eq]
  generalize (lg_sl ([.ref (b 0), .int v, .int q]) ++ List.replicate (4 - (lg_sl ([.ref (b 0), .int v, .int q])).length) Slot.unset).toArray = ls at hl ⊢
  have hl : lv_has ls 4 [(0, .ref (b 0)), (1, .int v), (2, .int q)] := hl
  refine lv_aload_n hx hb dX5_fill_0 rfl (lv_at hl 0 rfl) ?_
  refine lv_iconst (v := 0) hx hb dX5_fill_1 (by decide) ?_
  refine va_put (D := D) (ci := 5) (v := .int 0) (ty := .int) (C := RX5) (T := TX5) (N := 22) hx hb hts (fun _ h => List.mem_cons_of_mem _ (List.mem_append_right _ h)) tyX5 tyX5_ok nmX5 hown hK hP hD hS 0 rfl rfl 0 (by decide) (hts _ (List.mem_of_getElem? (i := 1) rfl)) (fun _ h9 => h9) rfl (by decide +kernel) rfl rfl (Nat.le_of_ble_eq_true rfl) dX5_fill_2 (fun H locs hP hD hS => ?_)
  rw [rfW_th] at hP hD
  have hP : va_P D vwCl (rfW cI b (rs_th u 0)) H := hP
  have hD : va_D A (rfW cI b (rs_th u 0)) := hD
  refine lv_iload_n hx hb dX5_fill_5 rfl (lv_at hl 1 rfl) ?_
  refine lv_iconst (v := 0) hx hb dX5_fill_6 (by decide) ?_
  refine lv_sipush (v := 255) hx hb dX5_fill_7 (by decide) ?_
  refine kI (rS (As := [.int v, .int 0, .int 255]) (rest := []) ⟨hx, hb, hml, hown, hts⟩ (c_X5_isIn l D cI cL cM _ v 0 255 ) (va_cwS 3 hts gX5_fill_X5_isIn rfl rfl rfl (by decide +kernel) ⟨(Nat.le_of_ble_eq_true rfl), (Nat.le_of_ble_eq_true rfl)⟩) hE hP hD [] rfl rfl rfl hl.1 rfl (Nat.le_of_ble_eq_true rfl) dX5_fill_10 ⟨(Nat.le_of_ble_eq_true rfl), (Nat.le_of_ble_eq_true rfl)⟩) hP hD hS hA (is := []) rfl rfl (fun H locs hP hD hS => ?_)
  rw [putW_nil] at hP hD
  have hP : va_P D vwCl (rfW cI b (rs_th u 0)) H := hP
  have hD : va_D A (rfW cI b (rs_th u 0)) := hD
  refine lv_if_eq (tgt := 26) hx hb dX5_fill_13 (by decide) (fun ca => ?_) (fun ca => ?_)
  · replace ca : (isI v 0 255) = (0 : Int32) := ca
    refine lv_aload_n hx hb dX5_fill_26 rfl (lv_at hl 0 rfl) ?_
    refine lv_iconst (v := 1) hx hb dX5_fill_27 (by decide) ?_
    refine kIa (rVa (As := [.int 1]) (rest := []) ⟨hx, hb, hml, hown, hts⟩ (c_X5_no l D cI cL cM _ b (rs_th u 0) 1 ) (cwV 1 hts gX5_fill_X5_no rfl rfl rfl (by decide +kernel) ⟨(Nat.le_of_ble_eq_true rfl), (Nat.le_of_ble_eq_true rfl)⟩) hE hP hD hS hA 0 rfl rfl rfl hl.1 rfl (Nat.le_of_ble_eq_true rfl) dX5_fill_28 ⟨(Nat.le_of_ble_eq_true rfl), (Nat.le_of_ble_eq_true rfl)⟩) hS (fun H locs hP hD hS => ?_)
    have hP : va_P D vwCl (rfW cI b (rs_th (rs_th u 0) 1)) H := hP
    have hD : va_D A (rfW cI b (rs_th (rs_th u 0) 1)) := hD
    have hw9 : (rfW cI b (rs_th (rs_th u 0) 1)) = (rfW cI b (if isI v 0 255 = 0 then (rs_th (rs_th u 0) 1) else if isI q 1 80 = 0 then (rs_th (rs_th u 0) 1) else if r_sz u + q.toNatClampNeg ≤ 80 then rs_sz (rs_tx (rs_th u 0) (r_fl v (r_sz u) (r_tx u) q.toNatClampNeg)) (r_sz u + q.toNatClampNeg) else (rs_th (rs_th u 0) 2))) := by first | (rw [if_pos ca]; try rfl) | (rw [if_neg ca, if_pos cm]; try rfl) | (rw [if_neg ca, if_neg cm, hcl, if_neg hle]; try rfl) | (rw [if_neg ca, if_neg cm, hcl, if_pos hle, hsy, hy, hkm])
    rw [hw9] at hP hD
    exact W.iret (v := (0)) hx hb hr (fun t ht hW => ⟨⟨(0), (), rfl, by (first | (rw [if_pos ca]) | (rw [if_neg ca, if_pos cm]) | (rw [if_neg ca, if_neg cm, hcl, if_neg hle]) | (rw [if_neg ca, if_neg cm, hcl, if_pos hle, hsy])), by rw [ht]; exact hP, hD⟩, hS.F ht⟩) hS.2.2 dX5_fill_31
  · replace ca : ¬ (isI v 0 255) = (0 : Int32) := ca
    refine lv_iload_n hx hb dX5_fill_16 rfl (lv_at hl 2 rfl) ?_
    refine lv_iconst (v := 1) hx hb dX5_fill_17 (by decide) ?_
    refine lv_bipush (v := 80) hx hb dX5_fill_18 (by decide) ?_
    refine kI (rS (As := [.int q, .int 1, .int 80]) (rest := []) ⟨hx, hb, hml, hown, hts⟩ (c_X5_isIn l D cI cL cM _ q 1 80 ) (va_cwS 3 hts gX5_fill_X5_isIn rfl rfl rfl (by decide +kernel) ⟨(Nat.le_of_ble_eq_true rfl), (Nat.le_of_ble_eq_true rfl)⟩) hE hP hD [] rfl rfl rfl hl.1 rfl (Nat.le_of_ble_eq_true rfl) dX5_fill_20 ⟨(Nat.le_of_ble_eq_true rfl), (Nat.le_of_ble_eq_true rfl)⟩) hP hD hS hA (is := []) rfl rfl (fun H locs hP hD hS => ?_)
    rw [putW_nil] at hP hD
    have hP : va_P D vwCl (rfW cI b (rs_th u 0)) H := hP
    have hD : va_D A (rfW cI b (rs_th u 0)) := hD
    refine lv_if_ne (tgt := 32) hx hb dX5_fill_23 (by decide) (fun cm => ?_) (fun cm => ?_)
    · replace cm : ¬ (isI q 1 80) = (0 : Int32) := cm
      obtain ⟨m9, hm1, hm8, hqe⟩ := isIab (a := 1) (b := 80) (Nat.le_of_ble_eq_true rfl) (Nat.le_of_ble_eq_true rfl) cm
      have hcl : q.toNatClampNeg = m9 := clN hqe (Nat.lt_succ_of_le hm8) (Nat.le_of_ble_eq_true rfl)
      refine lv_aload_n hx hb dX5_fill_32 rfl (lv_at hl 0 rfl) ?_
      refine va_get (D := D) (ci := 5) (v := .int (nI (r_sz u))) (C := RX5) (T := TX5) (N := 22) hx hb hts (fun _ h => List.mem_cons_of_mem _ (List.mem_append_right _ h)) hown hK hP 0 rfl rfl 5 (by decide) (hts _ (List.mem_of_getElem? (i := 2) rfl)) (fun _ h9 => h9) rfl dX5_fill_33 ?_
      refine lv_iload_n hx hb dX5_fill_36 rfl (lv_at hl 2 rfl) ?_
      refine lv_iadd hx hb dX5_fill_37 ?_
      refine topI (y := nI (r_sz u + m9)) (by rw [hqe]; exact nI_add _ _) ?_
      refine lv_bipush (v := 80) hx hb dX5_fill_38 (by decide) ?_
      refine lv_icmp_le (tgt := 49) hx hb dX5_fill_40 (by decide) (fun cs => ?_) (fun cs => ?_)
      · replace cs : (nI (r_sz u + m9)) ≤ (80 : Int32) := cs
        have hle : r_sz u + m9 ≤ 80 := ge_N (b := 80) (by omega) (by omega) cs
        refine lv_iconst (v := 0) hx hb dX5_fill_49 (by decide) ?_
        refine lv_istore_n (lv' := [(3, .int 0), (0, .ref (b 0)), (1, .int v), (2, .int q)]) hx hb dX5_fill_50 rfl hl (by decide) rfl (fun ls hl => ?_)
        have lpg : ∀ (n9 : Nat) (k9 : Nat) (y : RS) (hk9 : k9 ≤ m9) (hy : y = rs_tx (rs_th u 0) (r_fl v (r_sz u) (r_tx u) k9)) (hsy : r_sz y = r_sz u), m9 - k9 < n9 → ∀ (H : Heap) (locs : List Loc), va_P D vwCl (rfW cI b y) H → va_D A (rfW cI b y) → va_S A s.heap H locs → ∀ (ls : Array Slot), lv_has ls 4 [(3, .int (nI k9)), (0, .ref (b 0)), (1, .int v), (2, .int q)] → W p l e (headSpec wsX5_fill ({ frames := 1, cells := 0, slots := 0, locals := 22 })).room s m (([.ref (b 0), .int v, .int q] : List Value).toArray) below meth c H locs 0 0 (MQ below (va_Qi (fun x (_ : Unit) => x = (if isI v 0 255 = 0 then 0 else if isI q 1 80 = 0 then 0 else if r_sz u + q.toNatClampNeg ≤ 80 then nI (r_sz u + q.toNatClampNeg) else 0)) (fun _ t => hq D A (rfW cI b (if isI v 0 255 = 0 then (rs_th (rs_th u 0) 1) else if isI q 1 80 = 0 then (rs_th (rs_th u 0) 1) else if r_sz u + q.toNatClampNeg ≤ 80 then rs_sz (rs_tx (rs_th u 0) (r_fl v (r_sz u) (r_tx u) q.toNatClampNeg)) (r_sz u + q.toNatClampNeg) else (rs_th (rs_th u 0) 2))) t) A) (([.ref (b 0), .int v, .int q] : List Value).toArray) s 0 0 A) (F0 m 51 ls []) := by
          intro n9
          induction n9 with
          | zero => intro k9 y hk9 hy hsy hm9; exact absurd hm9 (Nat.not_lt_zero _)
          | succ n9 ih_lpg =>
            intro k9 y hk9 hy hsy hm9 H locs hP hD hS ls hl
            refine lv_iload_n hx hb dX5_fill_51 rfl (lv_at hl 0 rfl) ?_
            refine lv_iload_n hx hb dX5_fill_52 rfl (lv_at hl 3 rfl) ?_
            refine topI (y := nI m9) (hqe) ?_
            refine lv_icmp_ge (tgt := 74) hx hb dX5_fill_53 (by decide) (fun cj => ?_) (fun cj => ?_)
            · replace cj : (nI m9) ≤ (nI k9) := cj
              have hkm : k9 = m9 := by have h8 := ge_N (by omega) (by omega) cj; omega
              refine lv_aload_n hx hb dX5_fill_74 rfl (lv_at hl 1 rfl) ?_
              refine lv_dup hx hb dX5_fill_75 rfl ?_
              refine va_get (D := D) (ci := 5) (v := .int (nI (r_sz y))) (C := RX5) (T := TX5) (N := 22) hx hb hts (fun _ h => List.mem_cons_of_mem _ (List.mem_append_right _ h)) hown hK hP 0 rfl rfl 5 (by decide) (hts _ (List.mem_of_getElem? (i := 2) rfl)) (fun _ h9 => h9) rfl dX5_fill_76 ?_
              refine lv_iload_n hx hb dX5_fill_79 rfl (lv_at hl 3 rfl) ?_
              refine topI (y := nI m9) (hqe) ?_
              refine lv_iadd hx hb dX5_fill_80 ?_
              refine topI (y := nI (r_sz y + m9)) (nI_add _ _) ?_
              refine va_put (D := D) (ci := 5) (v := .int (nI (r_sz y + m9))) (ty := .int) (C := RX5) (T := TX5) (N := 22) hx hb hts (fun _ h => List.mem_cons_of_mem _ (List.mem_append_right _ h)) tyX5 tyX5_ok nmX5 hown hK hP hD hS 0 rfl rfl 5 (by decide) (hts _ (List.mem_of_getElem? (i := 2) rfl)) (fun _ h9 => h9) rfl (by decide +kernel) rfl rfl (Nat.le_of_ble_eq_true rfl) dX5_fill_81 (fun H locs hP hD hS => ?_)
              rw [rfW_sz] at hP hD
              have hP : va_P D vwCl (rfW cI b (rs_sz y (r_sz y + m9))) H := hP
              have hD : va_D A (rfW cI b (rs_sz y (r_sz y + m9))) := hD
              refine lv_aload_n hx hb dX5_fill_84 rfl (lv_at hl 1 rfl) ?_
              refine va_get (D := D) (ci := 5) (v := .int (nI (r_sz y + m9))) (C := RX5) (T := TX5) (N := 22) hx hb hts (fun _ h => List.mem_cons_of_mem _ (List.mem_append_right _ h)) hown hK hP 0 rfl rfl 5 (by decide) (hts _ (List.mem_of_getElem? (i := 2) rfl)) (fun _ h9 => h9) rfl dX5_fill_85 ?_
              have hw9 : (rfW cI b (rs_sz y (r_sz y + m9))) = (rfW cI b (if isI v 0 255 = 0 then (rs_th (rs_th u 0) 1) else if isI q 1 80 = 0 then (rs_th (rs_th u 0) 1) else if r_sz u + q.toNatClampNeg ≤ 80 then rs_sz (rs_tx (rs_th u 0) (r_fl v (r_sz u) (r_tx u) q.toNatClampNeg)) (r_sz u + q.toNatClampNeg) else (rs_th (rs_th u 0) 2))) := by first | (rw [if_pos ca]; try rfl) | (rw [if_neg ca, if_pos cm]; try rfl) | (rw [if_neg ca, if_neg cm, hcl, if_neg hle]; try rfl) | (rw [if_neg ca, if_neg cm, hcl, if_pos hle, hsy, hy, hkm])
              rw [hw9] at hP hD
              exact W.iret (v := nI (r_sz y + m9)) hx hb hr (fun t ht hW => ⟨⟨(nI (r_sz y + m9)), (), rfl, by (first | (rw [if_pos ca]) | (rw [if_neg ca, if_pos cm]) | (rw [if_neg ca, if_neg cm, hcl, if_neg hle]) | (rw [if_neg ca, if_neg cm, hcl, if_pos hle, hsy])), by rw [ht]; exact hP, hD⟩, hS.F ht⟩) hS.2.2 dX5_fill_88
            · replace cj : ¬ (nI m9) ≤ (nI k9) := cj
              have hkm : k9 < m9 := nge_N (by omega) (by omega) cj
              refine lv_aload_n hx hb dX5_fill_56 rfl (lv_at hl 1 rfl) ?_
              refine va_get (D := D) (ci := 5) (v := .ref (b 4)) (C := RX5) (T := TX5) (N := 22) hx hb hts (fun _ h => List.mem_cons_of_mem _ (List.mem_append_right _ h)) hown hK hP 0 rfl rfl 6 (by decide) (hts _ (List.mem_of_getElem? (i := 3) rfl)) (fun _ h9 => h9) rfl dX5_fill_57 ?_
              refine lv_aload_n hx hb dX5_fill_60 rfl (lv_at hl 1 rfl) ?_
              refine va_get (D := D) (ci := 5) (v := .int (nI (r_sz y))) (C := RX5) (T := TX5) (N := 22) hx hb hts (fun _ h => List.mem_cons_of_mem _ (List.mem_append_right _ h)) hown hK hP 0 rfl rfl 5 (by decide) (hts _ (List.mem_of_getElem? (i := 2) rfl)) (fun _ h9 => h9) rfl dX5_fill_61 ?_
              refine lv_iload_n hx hb dX5_fill_64 rfl (lv_at hl 0 rfl) ?_
              refine lv_iadd hx hb dX5_fill_65 ?_
              refine topI (y := nI (r_sz y + k9)) (nI_add _ _) ?_
              refine lv_iload_n hx hb dX5_fill_66 rfl (lv_at hl 2 rfl) ?_
              refine istN hx hb hK hP hD hS 4 0 rfl rfl (r_sz y + k9) (by omega) ((Nat.le_of_ble_eq_true rfl)) dX5_fill_67 (fun H locs hP hD hS => ?_)
              rw [rfW_tx] at hP hD
              have hP : va_P D vwCl (rfW cI b (rs_tx y (upd (r_tx y) (r_sz y + k9) v))) H := hP
              have hD : va_D A (rfW cI b (rs_tx y (upd (r_tx y) (r_sz y + k9) v))) := hD
              refine lv_iinc (v := nI (k9 + 1)) (lv' := [(3, .int (nI (k9 + 1))), (0, .ref (b 0)), (1, .int v), (2, .int q)]) hx hb dX5_fill_68 hl (k := 0) rfl (nI_1 _) (by decide) rfl (fun ls hl => ?_)
              refine lv_goto (tgt := 51) hx hb dX5_fill_71 (by decide) ?_
              exact ih_lpg (k9 + 1) (rs_tx y (upd (r_tx y) (r_sz y + k9) v)) (by omega) (by rw [hsy, hy]; exact r_fl_st _ _ _ _ _) (by rw [r_sz_tx]; exact hsy) (by omega) _ _ hP hD hS ls (lv_sub hl [0, 1, 2, 3] rfl)
        exact lpg _ 0 (rs_th u 0) (Nat.zero_le _) (rfl) (rfl) (Nat.lt_succ_self _) _ _ hP hD hS ls (lv_sub hl [0, 1, 2, 3] rfl)
      · replace cs : ¬ (nI (r_sz u + m9)) ≤ (80 : Int32) := cs
        have hle : ¬ r_sz u + m9 ≤ 80 := fun h9 => cs ((nI_leI (b := 80) (by omega) (by omega)).mpr h9)
        refine lv_aload_n hx hb dX5_fill_43 rfl (lv_at hl 0 rfl) ?_
        refine lv_iconst (v := 2) hx hb dX5_fill_44 (by decide) ?_
        refine kIa (rVa (As := [.int 2]) (rest := []) ⟨hx, hb, hml, hown, hts⟩ (c_X5_no l D cI cL cM _ b (rs_th u 0) 2 ) (cwV 1 hts gX5_fill_X5_no rfl rfl rfl (by decide +kernel) ⟨(Nat.le_of_ble_eq_true rfl), (Nat.le_of_ble_eq_true rfl)⟩) hE hP hD hS hA 0 rfl rfl rfl hl.1 rfl (Nat.le_of_ble_eq_true rfl) dX5_fill_45 ⟨(Nat.le_of_ble_eq_true rfl), (Nat.le_of_ble_eq_true rfl)⟩) hS (fun H locs hP hD hS => ?_)
        have hP : va_P D vwCl (rfW cI b (rs_th (rs_th u 0) 2)) H := hP
        have hD : va_D A (rfW cI b (rs_th (rs_th u 0) 2)) := hD
        have hw9 : (rfW cI b (rs_th (rs_th u 0) 2)) = (rfW cI b (if isI v 0 255 = 0 then (rs_th (rs_th u 0) 1) else if isI q 1 80 = 0 then (rs_th (rs_th u 0) 1) else if r_sz u + q.toNatClampNeg ≤ 80 then rs_sz (rs_tx (rs_th u 0) (r_fl v (r_sz u) (r_tx u) q.toNatClampNeg)) (r_sz u + q.toNatClampNeg) else (rs_th (rs_th u 0) 2))) := by first | (rw [if_pos ca]; try rfl) | (rw [if_neg ca, if_pos cm]; try rfl) | (rw [if_neg ca, if_neg cm, hcl, if_neg hle]; try rfl) | (rw [if_neg ca, if_neg cm, hcl, if_pos hle, hsy, hy, hkm])
        rw [hw9] at hP hD
        exact W.iret (v := (0)) hx hb hr (fun t ht hW => ⟨⟨(0), (), rfl, by (first | (rw [if_pos ca]) | (rw [if_neg ca, if_pos cm]) | (rw [if_neg ca, if_neg cm, hcl, if_neg hle]) | (rw [if_neg ca, if_neg cm, hcl, if_pos hle, hsy])), by rw [ht]; exact hP, hD⟩, hS.F ht⟩) hS.2.2 dX5_fill_48
    · replace cm : (isI q 1 80) = (0 : Int32) := cm
      refine lv_aload_n hx hb dX5_fill_26 rfl (lv_at hl 0 rfl) ?_
      refine lv_iconst (v := 1) hx hb dX5_fill_27 (by decide) ?_
      refine kIa (rVa (As := [.int 1]) (rest := []) ⟨hx, hb, hml, hown, hts⟩ (c_X5_no l D cI cL cM _ b (rs_th u 0) 1 ) (cwV 1 hts gX5_fill_X5_no rfl rfl rfl (by decide +kernel) ⟨(Nat.le_of_ble_eq_true rfl), (Nat.le_of_ble_eq_true rfl)⟩) hE hP hD hS hA 0 rfl rfl rfl hl.1 rfl (Nat.le_of_ble_eq_true rfl) dX5_fill_28 ⟨(Nat.le_of_ble_eq_true rfl), (Nat.le_of_ble_eq_true rfl)⟩) hS (fun H locs hP hD hS => ?_)
      have hP : va_P D vwCl (rfW cI b (rs_th (rs_th u 0) 1)) H := hP
      have hD : va_D A (rfW cI b (rs_th (rs_th u 0) 1)) := hD
      have hw9 : (rfW cI b (rs_th (rs_th u 0) 1)) = (rfW cI b (if isI v 0 255 = 0 then (rs_th (rs_th u 0) 1) else if isI q 1 80 = 0 then (rs_th (rs_th u 0) 1) else if r_sz u + q.toNatClampNeg ≤ 80 then rs_sz (rs_tx (rs_th u 0) (r_fl v (r_sz u) (r_tx u) q.toNatClampNeg)) (r_sz u + q.toNatClampNeg) else (rs_th (rs_th u 0) 2))) := by first | (rw [if_pos ca]; try rfl) | (rw [if_neg ca, if_pos cm]; try rfl) | (rw [if_neg ca, if_neg cm, hcl, if_neg hle]; try rfl) | (rw [if_neg ca, if_neg cm, hcl, if_pos hle, hsy, hy, hkm])
      rw [hw9] at hP hD
      exact W.iret (v := (0)) hx hb hr (fun t ht hW => ⟨⟨(0), (), rfl, by (first | (rw [if_pos ca]) | (rw [if_neg ca, if_pos cm]) | (rw [if_neg ca, if_neg cm, hcl, if_neg hle]) | (rw [if_neg ca, if_neg cm, hcl, if_pos hle, hsy])), by rw [ht]; exact hP, hD⟩, hS.F ht⟩) hS.2.2 dX5_fill_31

set_option maxHeartbeats 4000000 in
set_option maxRecDepth 100000 in
theorem c_X5_differences (l : Launch) (D : va_G) (cI cL cM : ClassId) (A : Nat → Prop) (b : Nat → Nat) (u : RS) (hz9 : r_sz u ≤ 80) (hm9 : r_mk u ≤ 80) : mI l yX5_differences wsX5_differences ({ frames := 1, cells := 0, slots := 0, locals := 24 }) D (tB cI cL cM) A [.ref (b 0)] (rfW cI b u) (dfR u (min (r_sz u) (r_mk u))) (rfW cI b u) := by
  refine Met.ofW (cc := cX5_differences) (maxL := 3) (ret := (some .int)) (by decide) rfl ?_
  intro p e s m args below meth c s₁ B hml hv
  obtain ⟨rfl, hP, hE, hD, hA⟩ := hv
  have hK := hE.1
  have hx := B.exec
  have hb := B.bytes
  have hr := B.returns
  have hts := atoms_spec (ws := wsX5_differences) B.pre
  have hown : s.vm.findClass RX5 = some m.cls := findClass_of_methodNamed B.named
  have hlocks := B.notSynchronized
  have hS : va_S A s.heap s.heap [] := va_S.rf
  have hl := lv_entry ([.ref (b 0)]) (n := 3) (Nat.le_of_ble_eq_true rfl)
  rw [lg_entry_eq]
  generalize (lg_sl ([.ref (b 0)]) ++ List.replicate (3 - (lg_sl ([.ref (b 0)])).length) Slot.unset).toArray = ls at hl ⊢
  have hl : lv_has ls 3 [(0, .ref (b 0))] := hl
  refine lv_aload_n hx hb dX5_differences_0 rfl (lv_at hl 0 rfl) ?_
  refine va_get (D := D) (ci := 5) (v := .int (nI (r_sz u))) (C := RX5) (T := TX5) (N := 22) hx hb hts (fun _ h => List.mem_cons_of_mem _ (List.mem_append_right _ h)) hown hK hP 0 rfl rfl 5 (by decide) (hts _ (List.mem_of_getElem? (i := 1) rfl)) (fun _ h9 => h9) rfl dX5_differences_1 ?_
  refine lv_aload_n hx hb dX5_differences_4 rfl (lv_at hl 0 rfl) ?_
  refine va_get (D := D) (ci := 5) (v := .int (nI (r_mk u))) (C := RX5) (T := TX5) (N := 22) hx hb hts (fun _ h => List.mem_cons_of_mem _ (List.mem_append_right _ h)) hown hK hP 0 rfl rfl 18 (by decide) (hts _ (List.mem_of_getElem? (i := 2) rfl)) (fun _ h9 => h9) rfl dX5_differences_5 ?_
  refine lv_isub hx hb dX5_differences_8 ?_
  refine va_mabs hx hb (hml.trans hl.1.symm) hown (hts _ (List.mem_of_getElem? (i := 3) rfl)) (hts _ (List.mem_of_getElem? (i := 4) rfl)) (hts _ (List.mem_of_getElem? (i := 5) rfl)) (hts _ (List.mem_of_getElem? (i := 6) rfl)) (Nat.le_of_ble_eq_true rfl) (Nat.le_of_ble_eq_true rfl) (Nat.le_of_ble_eq_true rfl) (Nat.le_of_ble_eq_true rfl) dX5_differences_9 ?_
  refine topI (y := dfR u 0) (rfl) ?_
  refine lv_istore_n (lv' := [(1, .int (dfR u 0)), (0, .ref (b 0))]) hx hb dX5_differences_12 rfl hl (by decide) rfl (fun ls hl => ?_)
  refine lv_iconst (v := 0) hx hb dX5_differences_13 (by decide) ?_
  refine lv_istore_n (lv' := [(2, .int 0), (1, .int (dfR u 0)), (0, .ref (b 0))]) hx hb dX5_differences_14 rfl hl (by decide) rfl (fun ls hl => ?_)
  have lpd : ∀ (n9 : Nat) (k9 : Nat) (hk9 : k9 ≤ r_sz u) (hkm : k9 ≤ r_mk u), r_sz u - k9 < n9 → ∀ (H : Heap) (locs : List Loc), va_P D vwCl (rfW cI b u) H → va_D A (rfW cI b u) → va_S A s.heap H locs → ∀ (ls : Array Slot), lv_has ls 3 [(2, .int (nI k9)), (1, .int (dfR u k9)), (0, .ref (b 0))] → W p l e (headSpec wsX5_differences ({ frames := 1, cells := 0, slots := 0, locals := 24 })).room s m (([.ref (b 0)] : List Value).toArray) below meth c H locs 0 0 (MQ below (va_Qi (fun x (_ : Unit) => x = (dfR u (min (r_sz u) (r_mk u)))) (fun _ t => hq D A (rfW cI b u) t) A) (([.ref (b 0)] : List Value).toArray) s 0 0 A) (F0 m 15 ls []) := by
    intro n9
    induction n9 with
    | zero => intro k9 hk9 hkm hm9; exact absurd hm9 (Nat.not_lt_zero _)
    | succ n9 ih_lpd =>
      intro k9 hk9 hkm hm9 H locs hP hD hS ls hl
      refine lv_iload_n hx hb dX5_differences_15 rfl (lv_at hl 0 rfl) ?_
      refine lv_aload_n hx hb dX5_differences_16 rfl (lv_at hl 2 rfl) ?_
      refine va_get (D := D) (ci := 5) (v := .int (nI (r_sz u))) (C := RX5) (T := TX5) (N := 22) hx hb hts (fun _ h => List.mem_cons_of_mem _ (List.mem_append_right _ h)) hown hK hP 0 rfl rfl 5 (by decide) (hts _ (List.mem_of_getElem? (i := 1) rfl)) (fun _ h9 => h9) rfl dX5_differences_17 ?_
      refine lv_icmp_ge (tgt := 60) hx hb dX5_differences_20 (by decide) (fun cj => ?_) (fun cj => ?_)
      · replace cj : (nI (r_sz u)) ≤ (nI k9) := cj
        have hmin : min (r_sz u) (r_mk u) = k9 := by have h8 := ge_N (by omega) (by omega) cj; omega
        refine lv_iload_n hx hb dX5_differences_60 rfl (lv_at hl 1 rfl) ?_
        exact W.iret (v := (dfR u k9)) hx hb hr (fun t ht hW => ⟨⟨(dfR u k9), (), rfl, by rw [hmin], by rw [ht]; exact hP, hD⟩, hS.F ht⟩) hS.2.2 dX5_differences_61
      · replace cj : ¬ (nI (r_sz u)) ≤ (nI k9) := cj
        have hj1 : k9 < r_sz u := nge_N (by omega) (by omega) cj
        refine lv_iload_n hx hb dX5_differences_23 rfl (lv_at hl 0 rfl) ?_
        refine lv_aload_n hx hb dX5_differences_24 rfl (lv_at hl 2 rfl) ?_
        refine va_get (D := D) (ci := 5) (v := .int (nI (r_mk u))) (C := RX5) (T := TX5) (N := 22) hx hb hts (fun _ h => List.mem_cons_of_mem _ (List.mem_append_right _ h)) hown hK hP 0 rfl rfl 18 (by decide) (hts _ (List.mem_of_getElem? (i := 2) rfl)) (fun _ h9 => h9) rfl dX5_differences_25 ?_
        refine lv_icmp_ge (tgt := 60) hx hb dX5_differences_28 (by decide) (fun ck => ?_) (fun ck => ?_)
        · replace ck : (nI (r_mk u)) ≤ (nI k9) := ck
          have hmin : min (r_sz u) (r_mk u) = k9 := by have h8 := ge_N (by omega) (by omega) ck; omega
          refine lv_iload_n hx hb dX5_differences_60 rfl (lv_at hl 1 rfl) ?_
          exact W.iret (v := (dfR u k9)) hx hb hr (fun t ht hW => ⟨⟨(dfR u k9), (), rfl, by rw [hmin], by rw [ht]; exact hP, hD⟩, hS.F ht⟩) hS.2.2 dX5_differences_61
        · replace ck : ¬ (nI (r_mk u)) ≤ (nI k9) := ck
          have hj2 : k9 < r_mk u := nge_N (by omega) (by omega) ck
          refine lv_iload_n hx hb dX5_differences_31 rfl (lv_at hl 1 rfl) ?_
          refine lv_aload_n hx hb dX5_differences_32 rfl (lv_at hl 2 rfl) ?_
          refine va_get (D := D) (ci := 5) (v := .ref (b 4)) (C := RX5) (T := TX5) (N := 22) hx hb hts (fun _ h => List.mem_cons_of_mem _ (List.mem_append_right _ h)) hown hK hP 0 rfl rfl 6 (by decide) (hts _ (List.mem_of_getElem? (i := 7) rfl)) (fun _ h9 => h9) rfl dX5_differences_33 ?_
          refine lv_iload_n hx hb dX5_differences_36 rfl (lv_at hl 0 rfl) ?_
          refine ildN hx hb hK hP 4 0 rfl rfl k9 (by omega) ((Nat.le_of_ble_eq_true rfl)) dX5_differences_37 ?_
          refine lv_aload_n hx hb dX5_differences_38 rfl (lv_at hl 2 rfl) ?_
          refine va_get (D := D) (ci := 5) (v := .ref (b 12)) (C := RX5) (T := TX5) (N := 22) hx hb hts (fun _ h => List.mem_cons_of_mem _ (List.mem_append_right _ h)) hown hK hP 0 rfl rfl 19 (by decide) (hts _ (List.mem_of_getElem? (i := 8) rfl)) (fun _ h9 => h9) rfl dX5_differences_39 ?_
          refine lv_iload_n hx hb dX5_differences_42 rfl (lv_at hl 0 rfl) ?_
          refine ildN hx hb hK hP 12 0 rfl rfl k9 (by omega) ((Nat.le_of_ble_eq_true rfl)) dX5_differences_43 ?_
          refine lv_icmp_ne (tgt := 51) hx hb dX5_differences_44 (by decide) (fun cd => ?_) (fun cd => ?_)
          · replace cd : ¬ ((r_tx u) k9) = ((r_ou u) k9) := cd
            refine lv_iconst (v := 1) hx hb dX5_differences_51 (by decide) ?_
            refine lv_iadd hx hb dX5_differences_52 ?_
            refine lv_istore_n (lv' := [(1, .int ((dfR u k9) + 1)), (2, .int (nI k9)), (0, .ref (b 0))]) hx hb dX5_differences_53 rfl hl (by decide) rfl (fun ls hl => ?_)
            refine lv_iinc (v := nI (k9 + 1)) (lv' := [(2, .int (nI (k9 + 1))), (1, .int ((dfR u k9) + 1)), (0, .ref (b 0))]) hx hb dX5_differences_54 hl (k := 1) rfl (nI_1 _) (by decide) rfl (fun ls hl => ?_)
            refine lv_goto (tgt := 15) hx hb dX5_differences_57 (by decide) ?_
            have e9 : dfR u (k9 + 1) = dfR u k9 + 1 := by show dfR u k9 + (if r_tx u k9 = r_ou u k9 then (0 : Int32) else 1) = _; rw [if_neg cd]
            rw [← e9] at hl
            exact ih_lpd (k9 + 1) (by omega) (by omega) (by omega) _ _ hP hD hS ls (lv_sub hl [0, 1, 2] rfl)
          · replace cd : ((r_tx u) k9) = ((r_ou u) k9) := cd
            refine lv_iconst (v := 0) hx hb dX5_differences_47 (by decide) ?_
            refine lv_goto (tgt := 52) hx hb dX5_differences_48 (by decide) ?_
            refine lv_iadd hx hb dX5_differences_52 ?_
            refine lv_istore_n (lv' := [(1, .int ((dfR u k9) + 0)), (2, .int (nI k9)), (0, .ref (b 0))]) hx hb dX5_differences_53 rfl hl (by decide) rfl (fun ls hl => ?_)
            refine lv_iinc (v := nI (k9 + 1)) (lv' := [(2, .int (nI (k9 + 1))), (1, .int ((dfR u k9) + 0)), (0, .ref (b 0))]) hx hb dX5_differences_54 hl (k := 1) rfl (nI_1 _) (by decide) rfl (fun ls hl => ?_)
            refine lv_goto (tgt := 15) hx hb dX5_differences_57 (by decide) ?_
            have e9 : dfR u (k9 + 1) = dfR u k9 + 0 := by show dfR u k9 + (if r_tx u k9 = r_ou u k9 then (0 : Int32) else 1) = _; rw [if_pos cd]
            rw [← e9] at hl
            exact ih_lpd (k9 + 1) (by omega) (by omega) (by omega) _ _ hP hD hS ls (lv_sub hl [0, 1, 2] rfl)
  exact lpd _ 0 (Nat.zero_le _) (Nat.zero_le _) (Nat.lt_succ_self _) _ _ hP hD hS ls (lv_sub hl [0, 1, 2] rfl)
