/-! ===== the reference learns ===== -/
abbrev ShT : Type := Nat × Nat × (Nat → Int32) × (Nat → Int32) × (Nat → Int32)
def sh (u : RS) : ShT := (r_n u, r_nd u, r_od u, r_lo u, r_hi u)
theorem RSf_sh {u v : RS} (h : sh u = sh v) (hs : RSf v) : RSf u := by
  have h1 : r_n u = r_n v := congrArg (fun q : ShT => q.1) h
  have h2 : r_nd u = r_nd v := congrArg (fun q : ShT => q.2.1) h
  have h3 : r_od u = r_od v := congrArg (fun q : ShT => q.2.2.1) h
  have h4 : r_lo u = r_lo v := congrArg (fun q : ShT => q.2.2.2.1) h
  have h5 : r_hi u = r_hi v := congrArg (fun q : ShT => q.2.2.2.2) h
  unfold RSf r_ix r_ctx at *
  rw [h1, h2, h3, h4, h5]
  exact hs
theorem sh_th (u : RS) (x : Int32) : sh (rs_th u x) = sh u := rfl
theorem sh_ra (u : RS) (x : Nat → Int32) : sh (rs_ra u x) = sh u := rfl
theorem sh_sz (u : RS) (x : Nat) : sh (rs_sz u x) = sh u := rfl
theorem sh_tx (u : RS) (x : Nat → Int32) : sh (rs_tx u x) = sh u := rfl
theorem sh_co (u : RS) (x : Nat → Int32) : sh (rs_co u x) = sh u := rfl
theorem sh_lc (u : RS) (x : Nat → Int32) : sh (rs_lc u x) = sh u := rfl
theorem sh_ln (u : RS) (x : Nat → Int32) : sh (rs_ln u x) = sh u := rfl
theorem sh_we (u : RS) (x : Nat → Int32) : sh (rs_we u x) = sh u := rfl
theorem sh_cl (u : RS) (x : Nat → Int32) : sh (rs_cl u x) = sh u := rfl
theorem sh_ob (u : RS) (x : Int32) : sh (rs_ob u x) = sh u := rfl
theorem sh_er (u : RS) (x : Int64) : sh (rs_er u x) = sh u := rfl
theorem sh_cs (u : RS) (x : Nat) : sh (rs_cs u x) = sh u := rfl
theorem sh_cd (u : RS) (x : Nat → Int32) : sh (rs_cd u x) = sh u := rfl
theorem sh_mk (u : RS) (x : Nat) : sh (rs_mk u x) = sh u := rfl
theorem sh_ou (u : RS) (x : Nat → Int32) : sh (rs_ou u x) = sh u := rfl
theorem sh_lw (u : RS) (x : Int64) : sh (rs_lw u x) = sh u := rfl
theorem sh_hg (u : RS) (x : Int64) : sh (rs_hg u x) = sh u := rfl
theorem r_ctx_eq {u v : RS} {j : Nat} (h : sh u = sh v) : r_ctx u j = r_ctx v j := by
  have h3 : r_od u = r_od v := congrArg (fun q : ShT => q.2.2.1) h
  have h5 : r_hi u = r_hi v := congrArg (fun q : ShT => q.2.2.2.2) h
  unfold r_ctx
  rw [h3, h5]
theorem ixI {j : Nat} {x : Int32} (hj : j < 6) (hx : vp_in x 512) : 512 * nI j + x = nI (512 * j + x.toNatClampNeg) := by
  obtain ⟨h0, h1⟩ := vp_in_iff.mp hx
  have e0 : x.toNatClampNeg = x.toInt.toNat := rfl
  refine Int32.toInt_inj.mp ?_
  rw [ixT hj hx, nI_toInt (by omega)]
  omega
def wIncR (w : Int32) : Int32 := if w + w / 16 + 1 < (60000 : Int32) then w + w / 16 + 1 else 60000
def wDecR (w : Int32) : Int32 := if (1 : Int32) < w - w / 16 - 1 then w - w / 16 - 1 else 1
def r_aw1 (z mq : Int32) (j : Nat) (u : RS) : RS := if qual (r_g u j) z ≤ mq then (if mq ≤ qual (r_g u j) z then u else rs_we u (upd (r_we u) (8 * j + phN (r_nd u)) (wDecR (r_w u j)))) else rs_we u (upd (r_we u) (8 * j + phN (r_nd u)) (wIncR (r_w u j)))
def r_awl (z mq : Int32) : Nat → RS → RS
  | 0, u => u
  | j + 1, u => r_aw1 z mq j (r_awl z mq j u)
def r_at (u : RS) (j : Nat) : Nat := 512 * j + (r_ix u j).toNatClampNeg
def r_acB (z : Int32) (j : Nat) (u : RS) : RS := rs_ln (rs_lc (rs_co u (upd (r_co u) (r_at u j) (if z = 0 then cDn (r_g u j) (r_ra u j) else cUp (r_g u j) (r_ra u j)))) (upd (r_lc u) (r_at u j) (r_ctx u j))) (upd (r_ln u) (r_at u j) (nI (r_nd u)))
def r_ac1 (z : Int32) (j : Nat) (u : RS) : RS := if r_ln u (r_at u j) = 0 then r_acB z j u else if r_ln u (r_at u j) = nI (r_nd u) then (if r_lc u (r_at u j) = r_ctx u j then r_acB z j u else rs_cl (r_acB z j u) (upd (r_cl u) j (r_cl u j + 1))) else rs_cl (r_acB z j u) (upd (r_cl u) j (r_cl u j + 1))
def r_acl (z : Int32) : Nat → RS → RS
  | 0, u => u
  | j + 1, u => r_ac1 z j (r_acl z j u)
def r_fin (z : Int32) (u : RS) : RS := if 2 * r_nd u + bz z < 256 then rs_ob (rs_nd u (2 * r_nd u + bz z)) (r_ob u + 1) else rs_ob (rs_nd (rs_hi (rs_hi (rs_hi (rs_nd u (2 * r_nd u + bz z)) (upd (r_hi u) 2 (r_hi u 1))) (upd (upd (r_hi u) 2 (r_hi u 1)) 1 ((upd (r_hi u) 2 (r_hi u 1)) 0))) (upd (upd (upd (r_hi u) 2 (r_hi u 1)) 1 ((upd (r_hi u) 2 (r_hi u 1)) 0)) 0 (nI (2 * r_nd u + bz z) - 256))) 1) (r_ob u + 1)
def r_l1 (z : Int32) (u : RS) : RS := rs_er u (r_er u + (4096 - qual (r_mx u) z).toInt64)
def r_lrn (z : Int32) (u : RS) : RS := r_fin z (r_acl z (r_n (r_l1 z u)) (r_awl z (qual (r_mx u) z) (r_n (r_l1 z u)) (r_l1 z u)))
theorem r_at_lt {u : RS} {j : Nat} (hj : j < 6) (hx : vp_in (r_ix u j) 512) : r_at u j < 3072 := by
  obtain ⟨h0, h1⟩ := vp_in_iff.mp hx
  have e0 : (r_ix u j).toNatClampNeg = (r_ix u j).toInt.toNat := rfl
  unfold r_at
  omega
theorem le_of_nle {x y : Int32} (h : ¬ x ≤ y) : y ≤ x := by
  simp only [Int32.le_iff_toInt_le] at h ⊢
  omega

set_option maxHeartbeats 4000000 in
set_option maxRecDepth 100000 in
theorem c_X5_learn (l : Launch) (D : va_G) (cI cL cM : ClassId) (A : Nat → Prop) (b : Nat → Nat) (u : RS) (z : Int32) (hs : RSf u) (hT : ¬ r_n u = 0 → ¬ sumTL (r_w u) (r_n u) = 0) : mI l yX5_learn wsX5_learn ({ frames := 4, cells := 0, slots := 0, locals := 91 }) D (tB cI cL cM) A [.ref (b 0), .int z] (rfW cI b u) (qual (r_mx u) z) (rfW cI b (r_lrn z u)) := by
  refine Met.ofW (cc := cX5_learn) (maxL := 7) (ret := (some .int)) (by decide) rfl ?_
  intro p e s m args below meth c s₁ B hml hv
  obtain ⟨rfl, hP, hE, hD, hA⟩ := hv
  have hK := hE.1
  have hx := B.exec
  have hb := B.bytes
  have hr := B.returns
  have hts := atoms_spec (ws := wsX5_learn) B.pre
  have hown : s.vm.findClass RX5 = some m.cls := findClass_of_methodNamed B.named
  have hlocks := B.notSynchronized
  have hS : va_S A s.heap s.heap [] := va_S.rf
  have hl := lv_entry ([.ref (b 0), .int z]) (n := 7) (Nat.le_of_ble_eq_true rfl)
  rw [lg_entry_eq]
  generalize (lg_sl ([.ref (b 0), .int z]) ++ List.replicate (7 - (lg_sl ([.ref (b 0), .int z])).length) Slot.unset).toArray = ls at hl ⊢
  have hl : lv_has ls 7 [(0, .ref (b 0)), (1, .int z)] := hl
  refine lv_aload_n hx hb dX5_learn_0 rfl (lv_at hl 0 rfl) ?_
  refine kIa (rVa (As := []) (rest := []) ⟨hx, hb, hml, hown, hts⟩ (c_X5_mix l D cI cL cM _ b u  hs hT) (cwV 0 hts gX5_learn_X5_mix rfl rfl rfl (by decide +kernel) ⟨(Nat.le_of_ble_eq_true rfl), (Nat.le_of_ble_eq_true rfl)⟩) hE hP hD hS hA 0 rfl rfl rfl hl.1 rfl (Nat.le_of_ble_eq_true rfl) dX5_learn_1 ⟨(Nat.le_of_ble_eq_true rfl), (Nat.le_of_ble_eq_true rfl)⟩) hS (fun H locs hP hD hS => ?_)
  have hP : va_P D vwCl (rfW cI b u) H := hP
  have hD : va_D A (rfW cI b u) := hD
  refine lv_iload_n hx hb dX5_learn_4 rfl (lv_at hl 1 rfl) ?_
  refine kI (rS (As := [.int (r_mx u), .int z]) (rest := []) ⟨hx, hb, hml, hown, hts⟩ (c_X5_quality l D cI cL cM _ (r_mx u) z ) (va_cwS 2 hts gX5_learn_X5_quality rfl rfl rfl (by decide +kernel) ⟨(Nat.le_of_ble_eq_true rfl), (Nat.le_of_ble_eq_true rfl)⟩) hE hP hD [] rfl rfl rfl hl.1 rfl (Nat.le_of_ble_eq_true rfl) dX5_learn_5 ⟨(Nat.le_of_ble_eq_true rfl), (Nat.le_of_ble_eq_true rfl)⟩) hP hD hS hA (is := []) rfl rfl (fun H locs hP hD hS => ?_)
  rw [putW_nil] at hP hD
  have hP : va_P D vwCl (rfW cI b u) H := hP
  have hD : va_D A (rfW cI b u) := hD
  refine lv_istore_n (lv' := [(2, .int (qual (r_mx u) z)), (0, .ref (b 0)), (1, .int z)]) hx hb dX5_learn_8 rfl hl (by decide) rfl (fun ls hl => ?_)
  refine lv_aload_n hx hb dX5_learn_9 rfl (lv_at hl 1 rfl) ?_
  refine lv_dup hx hb dX5_learn_10 rfl ?_
  refine va_get (D := D) (ci := 5) (v := .long (r_er u)) (C := RX5) (T := TX5) (N := 22) hx hb hts (fun _ h => List.mem_cons_of_mem _ (List.mem_append_right _ h)) hown hK hP 0 rfl rfl 15 (by decide) (hts _ (List.mem_of_getElem? (i := 1) rfl)) (fun _ h9 => h9) rfl dX5_learn_11 ?_
  refine lv_sipush (v := 4096) hx hb dX5_learn_14 (by decide) ?_
  refine lv_iload_n hx hb dX5_learn_17 rfl (lv_at hl 0 rfl) ?_
  refine lv_isub hx hb dX5_learn_18 ?_
  refine lv_i2l hx hb dX5_learn_19 rfl ?_
  refine lv_ladd hx hb dX5_learn_20 ?_
  refine lv_topl (fun e0 he0 => ?_)
  refine va_put (D := D) (ci := 5) (v := .long e0) (ty := .long) (C := RX5) (T := TX5) (N := 22) hx hb hts (fun _ h => List.mem_cons_of_mem _ (List.mem_append_right _ h)) tyX5 tyX5_ok nmX5 hown hK hP hD hS 0 rfl rfl 15 (by decide) (hts _ (List.mem_of_getElem? (i := 1) rfl)) (fun _ h9 => h9) rfl (by decide +kernel) rfl rfl (Nat.le_of_ble_eq_true rfl) dX5_learn_21 (fun H locs hP hD hS => ?_)
  rw [rfW_er] at hP hD
  have hP : va_P D vwCl (rfW cI b (rs_er u e0)) H := hP
  have hD : va_D A (rfW cI b (rs_er u e0)) := hD
  obtain ⟨w1, hw1⟩ : ∃ y9 : RS, y9 = (rs_er u e0) := ⟨_, rfl⟩
  rw [← hw1] at hP hD
  have hs1 : RSf w1 := RSf_sh (by rw [hw1, sh_er]) hs
  refine lv_iconst (v := 0) hx hb dX5_learn_24 (by decide) ?_
  refine lv_istore_n (lv' := [(3, .int 0), (2, .int (qual (r_mx u) z)), (0, .ref (b 0)), (1, .int z)]) hx hb dX5_learn_25 rfl hl (by decide) rfl (fun ls hl => ?_)
  have lp1 : ∀ (n9 : Nat) (j : Nat) (v : RS) (hj : j ≤ r_n w1) (hsh : sh v = sh w1) (hv : v = r_awl z (qual (r_mx u) z) j w1), r_n w1 - j < n9 → ∀ (H : Heap) (locs : List Loc), va_P D vwCl (rfW cI b v) H → va_D A (rfW cI b v) → va_S A s.heap H locs → ∀ (ls : Array Slot), lv_has ls 7 [(3, .int (nI j)), (2, .int (qual (r_mx u) z)), (0, .ref (b 0)), (1, .int z)] → W p l e (headSpec wsX5_learn ({ frames := 4, cells := 0, slots := 0, locals := 91 })).room s m (([.ref (b 0), .int z] : List Value).toArray) below meth c H locs 0 0 (MQ below (va_Qi (fun x (_ : Unit) => x = (qual (r_mx u) z)) (fun _ t => hq D A (rfW cI b (r_lrn z u)) t) A) (([.ref (b 0), .int z] : List Value).toArray) s 0 0 A) (F0 m 26 ls []) := by
    intro n9
    induction n9 with
    | zero => intro j v hj hsh hv hm9; exact absurd hm9 (Nat.not_lt_zero _)
    | succ n9 ih_lp1 =>
      intro j v hj hsh hv hm9 H locs hP hD hS ls hl
      have hrn : r_n v = r_n w1 := congrArg (fun q : ShT => q.1) hsh
      obtain ⟨hn6, hnd, hnd0, hsj⟩ := RSf_sh hsh hs1
      have hp8 := phN_lt (r_nd v)
      refine lv_iload_n hx hb dX5_learn_26 rfl (lv_at hl 0 rfl) ?_
      refine lv_aload_n hx hb dX5_learn_27 rfl (lv_at hl 2 rfl) ?_
      refine va_get (D := D) (ci := 5) (v := .int (nI (r_n v))) (C := RX5) (T := TX5) (N := 22) hx hb hts (fun _ h => List.mem_cons_of_mem _ (List.mem_append_right _ h)) hown hK hP 0 rfl rfl 1 (by decide) (hts _ (List.mem_of_getElem? (i := 2) rfl)) (fun _ h9 => h9) rfl dX5_learn_28 ?_
      refine lv_icmp_ge (tgt := 126) hx hb dX5_learn_31 (by decide) (fun cj => ?_) (fun cj => ?_)
      · replace cj : (nI (r_n v)) ≤ (nI j) := cj
        have hjn : j = r_n w1 := by have h8 := ge_N (by omega) (by omega) cj; omega
        rw [hjn] at hv
        refine lv_iconst (v := 0) hx hb dX5_learn_126 (by decide) ?_
        refine lv_istore_n (lv' := [(3, .int 0), (2, .int (qual (r_mx u) z)), (0, .ref (b 0)), (1, .int z)]) hx hb dX5_learn_127 rfl hl (by decide) rfl (fun ls hl => ?_)
        have lp2 : ∀ (n9 : Nat) (j : Nat) (x : RS) (hj : j ≤ r_n w1) (hsx : sh x = sh w1) (hx2 : x = r_acl z j v), r_n w1 - j < n9 → ∀ (H : Heap) (locs : List Loc), va_P D vwCl (rfW cI b x) H → va_D A (rfW cI b x) → va_S A s.heap H locs → ∀ (ls : Array Slot), lv_has ls 7 [(3, .int (nI j)), (2, .int (qual (r_mx u) z)), (0, .ref (b 0)), (1, .int z)] → W p l e (headSpec wsX5_learn ({ frames := 4, cells := 0, slots := 0, locals := 91 })).room s m (([.ref (b 0), .int z] : List Value).toArray) below meth c H locs 0 0 (MQ below (va_Qi (fun x (_ : Unit) => x = (qual (r_mx u) z)) (fun _ t => hq D A (rfW cI b (r_lrn z u)) t) A) (([.ref (b 0), .int z] : List Value).toArray) s 0 0 A) (F0 m 128 ls []) := by
          intro n9
          induction n9 with
          | zero => intro j x hj hsx hx2 hm9; exact absurd hm9 (Nat.not_lt_zero _)
          | succ n9 ih_lp2 =>
            intro j x hj hsx hx2 hm9 H locs hP hD hS ls hl
            have hrn : r_n x = r_n w1 := congrArg (fun q : ShT => q.1) hsx
            obtain ⟨hn6, hnd, hnd0, hsj⟩ := RSf_sh hsx hs1
            refine lv_iload_n hx hb dX5_learn_128 rfl (lv_at hl 0 rfl) ?_
            refine lv_aload_n hx hb dX5_learn_129 rfl (lv_at hl 2 rfl) ?_
            refine va_get (D := D) (ci := 5) (v := .int (nI (r_n x))) (C := RX5) (T := TX5) (N := 22) hx hb hts (fun _ h => List.mem_cons_of_mem _ (List.mem_append_right _ h)) hown hK hP 0 rfl rfl 1 (by decide) (hts _ (List.mem_of_getElem? (i := 2) rfl)) (fun _ h9 => h9) rfl dX5_learn_130 ?_
            refine lv_icmp_ge (tgt := 278) hx hb dX5_learn_133 (by decide) (fun cj => ?_) (fun cj => ?_)
            · replace cj : (nI (r_n x)) ≤ (nI j) := cj
              have hjn : j = r_n w1 := by have h8 := ge_N (by omega) (by omega) cj; omega
              rw [hjn] at hx2
              refine lv_aload_n hx hb dX5_learn_278 rfl (lv_at hl 2 rfl) ?_
              refine lv_iconst (v := 2) hx hb dX5_learn_279 (by decide) ?_
              refine lv_aload_n hx hb dX5_learn_280 rfl (lv_at hl 2 rfl) ?_
              refine va_get (D := D) (ci := 5) (v := .int (nI (r_nd x))) (C := RX5) (T := TX5) (N := 22) hx hb hts (fun _ h => List.mem_cons_of_mem _ (List.mem_append_right _ h)) hown hK hP 0 rfl rfl 13 (by decide) (hts _ (List.mem_of_getElem? (i := 15) rfl)) (fun _ h9 => h9) rfl dX5_learn_281 ?_
              refine lv_imul hx hb dX5_learn_284 ?_
              refine lv_iload_n hx hb dX5_learn_285 rfl (lv_at hl 3 rfl) ?_
              refine lv_if_eq (tgt := 293) hx hb dX5_learn_286 (by decide) (fun cz2 => ?_) (fun cz2 => ?_)
              · replace cz2 : z = (0 : Int32) := cz2
                refine lv_iconst (v := 0) hx hb dX5_learn_293 (by decide) ?_
                refine lv_iadd hx hb dX5_learn_294 ?_
                obtain ⟨nd5, hnd5⟩ : ∃ y9 : Nat, y9 = 2 * r_nd x + bz z := ⟨_, rfl⟩
                have hnd6 : nd5 < 600 := by have := bz_le z; omega
                refine topI (y := nI nd5) (by rw [hnd5, bz_0 cz2]; exact nd2 (r_nd x) 0) ?_
                refine va_put (D := D) (ci := 5) (v := .int (nI nd5)) (ty := .int) (C := RX5) (T := TX5) (N := 22) hx hb hts (fun _ h => List.mem_cons_of_mem _ (List.mem_append_right _ h)) tyX5 tyX5_ok nmX5 hown hK hP hD hS 0 rfl rfl 13 (by decide) (hts _ (List.mem_of_getElem? (i := 15) rfl)) (fun _ h9 => h9) rfl (by decide +kernel) rfl rfl (Nat.le_of_ble_eq_true rfl) dX5_learn_295 (fun H locs hP hD hS => ?_)
                rw [rfW_nd] at hP hD
                have hP : va_P D vwCl (rfW cI b (rs_nd x nd5)) H := hP
                have hD : va_D A (rfW cI b (rs_nd x nd5)) := hD
                refine lv_aload_n hx hb dX5_learn_298 rfl (lv_at hl 2 rfl) ?_
                refine va_get (D := D) (ci := 5) (v := .int (nI nd5)) (C := RX5) (T := TX5) (N := 22) hx hb hts (fun _ h => List.mem_cons_of_mem _ (List.mem_append_right _ h)) hown hK hP 0 rfl rfl 13 (by decide) (hts _ (List.mem_of_getElem? (i := 15) rfl)) (fun _ h9 => h9) rfl dX5_learn_299 ?_
                refine lv_sipush (v := 256) hx hb dX5_learn_302 (by decide) ?_
                refine lv_icmp_lt (tgt := 353) hx hb dX5_learn_305 (by decide) (fun c2 => ?_) (fun c2 => ?_)
                · replace c2 : (nI nd5) < (256 : Int32) := c2
                  have c9 : nd5 < 256 := (nI_ltI (b := 256) (by omega) (by omega)).mp c2
                  refine lv_aload_n hx hb dX5_learn_353 rfl (lv_at hl 2 rfl) ?_
                  refine lv_dup hx hb dX5_learn_354 rfl ?_
                  refine va_get (D := D) (ci := 5) (v := .int (r_ob x)) (C := RX5) (T := TX5) (N := 22) hx hb hts (fun _ h => List.mem_cons_of_mem _ (List.mem_append_right _ h)) hown hK hP 0 rfl rfl 14 (by decide) (hts _ (List.mem_of_getElem? (i := 19) rfl)) (fun _ h9 => h9) rfl dX5_learn_355 ?_
                  refine lv_iconst (v := 1) hx hb dX5_learn_358 (by decide) ?_
                  refine lv_iadd hx hb dX5_learn_359 ?_
                  refine va_put (D := D) (ci := 5) (v := .int ((r_ob x) + 1)) (ty := .int) (C := RX5) (T := TX5) (N := 22) hx hb hts (fun _ h => List.mem_cons_of_mem _ (List.mem_append_right _ h)) tyX5 tyX5_ok nmX5 hown hK hP hD hS 0 rfl rfl 14 (by decide) (hts _ (List.mem_of_getElem? (i := 19) rfl)) (fun _ h9 => h9) rfl (by decide +kernel) rfl rfl (Nat.le_of_ble_eq_true rfl) dX5_learn_360 (fun H locs hP hD hS => ?_)
                  rw [rfW_ob] at hP hD
                  have hP : va_P D vwCl (rfW cI b (rs_ob (rs_nd x nd5) ((r_ob x) + 1))) H := hP
                  have hD : va_D A (rfW cI b (rs_ob (rs_nd x nd5) ((r_ob x) + 1))) := hD
                  refine lv_iload_n hx hb dX5_learn_363 rfl (lv_at hl 1 rfl) ?_
                  have hw9 : (rfW cI b (rs_ob (rs_nd x nd5) ((r_ob x) + 1))) = (rfW cI b (r_lrn z u)) := by show _ = rfW cI b (r_fin z (r_acl z (r_n (r_l1 z u)) (r_awl z (qual (r_mx u) z) (r_n (r_l1 z u)) (r_l1 z u)))); rw [show r_l1 z u = w1 from by rw [hw1, he0]; rfl, ← hv, ← hx2]; unfold r_fin; rw [← hnd5]; first | (rw [if_pos c9]; try rfl) | (rw [if_neg c9]; try rfl)
                  rw [hw9] at hP hD
                  exact W.iret (v := (qual (r_mx u) z)) hx hb hr (fun t ht hW => ⟨⟨(qual (r_mx u) z), (), rfl, by rfl, by rw [ht]; exact hP, hD⟩, hS.F ht⟩) hS.2.2 dX5_learn_364
                · replace c2 : ¬ (nI nd5) < (256 : Int32) := c2
                  have c9 : ¬ nd5 < 256 := fun h9 => c2 ((nI_ltI (b := 256) (by omega) (by omega)).mpr h9)
                  refine lv_iconst (v := 2) hx hb dX5_learn_308 (by decide) ?_
                  refine lv_istore_n (lv' := [(3, .int 2), (2, .int (qual (r_mx u) z)), (0, .ref (b 0)), (1, .int z)]) hx hb dX5_learn_309 rfl hl (by decide) rfl (fun ls hl => ?_)
                  refine lv_iload_n hx hb dX5_learn_310 rfl (lv_at hl 0 rfl) ?_
                  refine lv_if_le (tgt := 334) hx hb dX5_learn_311 (by decide) (fun c_1 => absurd c_1 (by decide)) (fun c_1 => ?_)
                  refine lv_aload_n hx hb dX5_learn_314 rfl (lv_at hl 2 rfl) ?_
                  refine va_get (D := D) (ci := 5) (v := .ref (b 10)) (C := RX5) (T := TX5) (N := 22) hx hb hts (fun _ h => List.mem_cons_of_mem _ (List.mem_append_right _ h)) hown hK hP 0 rfl rfl 12 (by decide) (hts _ (List.mem_of_getElem? (i := 18) rfl)) (fun _ h9 => h9) rfl dX5_learn_315 ?_
                  refine lv_iload_n hx hb dX5_learn_318 rfl (lv_at hl 0 rfl) ?_
                  refine lv_aload_n hx hb dX5_learn_319 rfl (lv_at hl 2 rfl) ?_
                  refine va_get (D := D) (ci := 5) (v := .ref (b 10)) (C := RX5) (T := TX5) (N := 22) hx hb hts (fun _ h => List.mem_cons_of_mem _ (List.mem_append_right _ h)) hown hK hP 0 rfl rfl 12 (by decide) (hts _ (List.mem_of_getElem? (i := 18) rfl)) (fun _ h9 => h9) rfl dX5_learn_320 ?_
                  refine lv_iload_n hx hb dX5_learn_323 rfl (lv_at hl 0 rfl) ?_
                  refine lv_iconst (v := 1) hx hb dX5_learn_324 (by decide) ?_
                  refine lv_isub hx hb dX5_learn_325 ?_
                  refine topI (y := 1) (by decide) ?_
                  refine ildN hx hb hK hP 10 0 rfl rfl 1 (by decide) ((Nat.le_of_ble_eq_true rfl)) dX5_learn_326 ?_
                  refine istN hx hb hK hP hD hS 10 0 rfl rfl 2 (by decide) ((Nat.le_of_ble_eq_true rfl)) dX5_learn_327 (fun H locs hP hD hS => ?_)
                  rw [rfW_hi] at hP hD
                  have hP : va_P D vwCl (rfW cI b (rs_hi (rs_nd x nd5) (upd (r_hi x) 2 ((r_hi x) 1)))) H := hP
                  have hD : va_D A (rfW cI b (rs_hi (rs_nd x nd5) (upd (r_hi x) 2 ((r_hi x) 1)))) := hD
                  refine lv_iinc (v := 1) (lv' := [(3, .int 1), (2, .int (qual (r_mx u) z)), (0, .ref (b 0)), (1, .int z)]) hx hb dX5_learn_328 hl (k := 0) rfl (by decide) (by decide) rfl (fun ls hl => ?_)
                  refine lv_goto (tgt := 310) hx hb dX5_learn_331 (by decide) ?_
                  refine lv_iload_n hx hb dX5_learn_310 rfl (lv_at hl 0 rfl) ?_
                  refine lv_if_le (tgt := 334) hx hb dX5_learn_311 (by decide) (fun c_2 => absurd c_2 (by decide)) (fun c_2 => ?_)
                  refine lv_aload_n hx hb dX5_learn_314 rfl (lv_at hl 2 rfl) ?_
                  refine va_get (D := D) (ci := 5) (v := .ref (b 10)) (C := RX5) (T := TX5) (N := 22) hx hb hts (fun _ h => List.mem_cons_of_mem _ (List.mem_append_right _ h)) hown hK hP 0 rfl rfl 12 (by decide) (hts _ (List.mem_of_getElem? (i := 18) rfl)) (fun _ h9 => h9) rfl dX5_learn_315 ?_
                  refine lv_iload_n hx hb dX5_learn_318 rfl (lv_at hl 0 rfl) ?_
                  refine lv_aload_n hx hb dX5_learn_319 rfl (lv_at hl 2 rfl) ?_
                  refine va_get (D := D) (ci := 5) (v := .ref (b 10)) (C := RX5) (T := TX5) (N := 22) hx hb hts (fun _ h => List.mem_cons_of_mem _ (List.mem_append_right _ h)) hown hK hP 0 rfl rfl 12 (by decide) (hts _ (List.mem_of_getElem? (i := 18) rfl)) (fun _ h9 => h9) rfl dX5_learn_320 ?_
                  refine lv_iload_n hx hb dX5_learn_323 rfl (lv_at hl 0 rfl) ?_
                  refine lv_iconst (v := 1) hx hb dX5_learn_324 (by decide) ?_
                  refine lv_isub hx hb dX5_learn_325 ?_
                  refine topI (y := 0) (by decide) ?_
                  refine ildN hx hb hK hP 10 0 rfl rfl 0 (by decide) ((Nat.le_of_ble_eq_true rfl)) dX5_learn_326 ?_
                  refine istN hx hb hK hP hD hS 10 0 rfl rfl 1 (by decide) ((Nat.le_of_ble_eq_true rfl)) dX5_learn_327 (fun H locs hP hD hS => ?_)
                  rw [rfW_hi] at hP hD
                  have hP : va_P D vwCl (rfW cI b (rs_hi (rs_hi (rs_nd x nd5) (upd (r_hi x) 2 ((r_hi x) 1))) (upd (upd (r_hi x) 2 ((r_hi x) 1)) 1 ((upd (r_hi x) 2 ((r_hi x) 1)) 0)))) H := hP
                  have hD : va_D A (rfW cI b (rs_hi (rs_hi (rs_nd x nd5) (upd (r_hi x) 2 ((r_hi x) 1))) (upd (upd (r_hi x) 2 ((r_hi x) 1)) 1 ((upd (r_hi x) 2 ((r_hi x) 1)) 0)))) := hD
                  refine lv_iinc (v := 0) (lv' := [(3, .int 0), (2, .int (qual (r_mx u) z)), (0, .ref (b 0)), (1, .int z)]) hx hb dX5_learn_328 hl (k := 0) rfl (by decide) (by decide) rfl (fun ls hl => ?_)
                  refine lv_goto (tgt := 310) hx hb dX5_learn_331 (by decide) ?_
                  refine lv_iload_n hx hb dX5_learn_310 rfl (lv_at hl 0 rfl) ?_
                  refine lv_if_le (tgt := 334) hx hb dX5_learn_311 (by decide) (fun c_3 => ?_) (fun c_3 => absurd (by decide) c_3)
                  refine lv_aload_n hx hb dX5_learn_334 rfl (lv_at hl 2 rfl) ?_
                  refine va_get (D := D) (ci := 5) (v := .ref (b 10)) (C := RX5) (T := TX5) (N := 22) hx hb hts (fun _ h => List.mem_cons_of_mem _ (List.mem_append_right _ h)) hown hK hP 0 rfl rfl 12 (by decide) (hts _ (List.mem_of_getElem? (i := 18) rfl)) (fun _ h9 => h9) rfl dX5_learn_335 ?_
                  refine lv_iconst (v := 0) hx hb dX5_learn_338 (by decide) ?_
                  refine lv_aload_n hx hb dX5_learn_339 rfl (lv_at hl 2 rfl) ?_
                  refine va_get (D := D) (ci := 5) (v := .int (nI nd5)) (C := RX5) (T := TX5) (N := 22) hx hb hts (fun _ h => List.mem_cons_of_mem _ (List.mem_append_right _ h)) hown hK hP 0 rfl rfl 13 (by decide) (hts _ (List.mem_of_getElem? (i := 15) rfl)) (fun _ h9 => h9) rfl dX5_learn_340 ?_
                  refine lv_sipush (v := 256) hx hb dX5_learn_343 (by decide) ?_
                  refine lv_isub hx hb dX5_learn_346 ?_
                  refine istN hx hb hK hP hD hS 10 0 rfl rfl 0 (by decide) ((Nat.le_of_ble_eq_true rfl)) dX5_learn_347 (fun H locs hP hD hS => ?_)
                  rw [rfW_hi] at hP hD
                  have hP : va_P D vwCl (rfW cI b (rs_hi (rs_hi (rs_hi (rs_nd x nd5) (upd (r_hi x) 2 ((r_hi x) 1))) (upd (upd (r_hi x) 2 ((r_hi x) 1)) 1 ((upd (r_hi x) 2 ((r_hi x) 1)) 0))) (upd (upd (upd (r_hi x) 2 ((r_hi x) 1)) 1 ((upd (r_hi x) 2 ((r_hi x) 1)) 0)) 0 ((nI nd5) - 256)))) H := hP
                  have hD : va_D A (rfW cI b (rs_hi (rs_hi (rs_hi (rs_nd x nd5) (upd (r_hi x) 2 ((r_hi x) 1))) (upd (upd (r_hi x) 2 ((r_hi x) 1)) 1 ((upd (r_hi x) 2 ((r_hi x) 1)) 0))) (upd (upd (upd (r_hi x) 2 ((r_hi x) 1)) 1 ((upd (r_hi x) 2 ((r_hi x) 1)) 0)) 0 ((nI nd5) - 256)))) := hD
                  refine lv_aload_n hx hb dX5_learn_348 rfl (lv_at hl 2 rfl) ?_
                  refine lv_iconst (v := 1) hx hb dX5_learn_349 (by decide) ?_
                  refine topI (y := nI 1) rfl ?_
                  refine va_put (D := D) (ci := 5) (v := .int (nI 1)) (ty := .int) (C := RX5) (T := TX5) (N := 22) hx hb hts (fun _ h => List.mem_cons_of_mem _ (List.mem_append_right _ h)) tyX5 tyX5_ok nmX5 hown hK hP hD hS 0 rfl rfl 13 (by decide) (hts _ (List.mem_of_getElem? (i := 15) rfl)) (fun _ h9 => h9) rfl (by decide +kernel) rfl rfl (Nat.le_of_ble_eq_true rfl) dX5_learn_350 (fun H locs hP hD hS => ?_)
                  rw [rfW_nd] at hP hD
                  have hP : va_P D vwCl (rfW cI b (rs_nd (rs_hi (rs_hi (rs_hi (rs_nd x nd5) (upd (r_hi x) 2 ((r_hi x) 1))) (upd (upd (r_hi x) 2 ((r_hi x) 1)) 1 ((upd (r_hi x) 2 ((r_hi x) 1)) 0))) (upd (upd (upd (r_hi x) 2 ((r_hi x) 1)) 1 ((upd (r_hi x) 2 ((r_hi x) 1)) 0)) 0 ((nI nd5) - 256))) 1)) H := hP
                  have hD : va_D A (rfW cI b (rs_nd (rs_hi (rs_hi (rs_hi (rs_nd x nd5) (upd (r_hi x) 2 ((r_hi x) 1))) (upd (upd (r_hi x) 2 ((r_hi x) 1)) 1 ((upd (r_hi x) 2 ((r_hi x) 1)) 0))) (upd (upd (upd (r_hi x) 2 ((r_hi x) 1)) 1 ((upd (r_hi x) 2 ((r_hi x) 1)) 0)) 0 ((nI nd5) - 256))) 1)) := hD
                  refine lv_aload_n hx hb dX5_learn_353 rfl (lv_at hl 2 rfl) ?_
                  refine lv_dup hx hb dX5_learn_354 rfl ?_
                  refine va_get (D := D) (ci := 5) (v := .int (r_ob x)) (C := RX5) (T := TX5) (N := 22) hx hb hts (fun _ h => List.mem_cons_of_mem _ (List.mem_append_right _ h)) hown hK hP 0 rfl rfl 14 (by decide) (hts _ (List.mem_of_getElem? (i := 19) rfl)) (fun _ h9 => h9) rfl dX5_learn_355 ?_
                  refine lv_iconst (v := 1) hx hb dX5_learn_358 (by decide) ?_
                  refine lv_iadd hx hb dX5_learn_359 ?_
                  refine va_put (D := D) (ci := 5) (v := .int ((r_ob x) + 1)) (ty := .int) (C := RX5) (T := TX5) (N := 22) hx hb hts (fun _ h => List.mem_cons_of_mem _ (List.mem_append_right _ h)) tyX5 tyX5_ok nmX5 hown hK hP hD hS 0 rfl rfl 14 (by decide) (hts _ (List.mem_of_getElem? (i := 19) rfl)) (fun _ h9 => h9) rfl (by decide +kernel) rfl rfl (Nat.le_of_ble_eq_true rfl) dX5_learn_360 (fun H locs hP hD hS => ?_)
                  rw [rfW_ob] at hP hD
                  have hP : va_P D vwCl (rfW cI b (rs_ob (rs_nd (rs_hi (rs_hi (rs_hi (rs_nd x nd5) (upd (r_hi x) 2 ((r_hi x) 1))) (upd (upd (r_hi x) 2 ((r_hi x) 1)) 1 ((upd (r_hi x) 2 ((r_hi x) 1)) 0))) (upd (upd (upd (r_hi x) 2 ((r_hi x) 1)) 1 ((upd (r_hi x) 2 ((r_hi x) 1)) 0)) 0 ((nI nd5) - 256))) 1) ((r_ob x) + 1))) H := hP
                  have hD : va_D A (rfW cI b (rs_ob (rs_nd (rs_hi (rs_hi (rs_hi (rs_nd x nd5) (upd (r_hi x) 2 ((r_hi x) 1))) (upd (upd (r_hi x) 2 ((r_hi x) 1)) 1 ((upd (r_hi x) 2 ((r_hi x) 1)) 0))) (upd (upd (upd (r_hi x) 2 ((r_hi x) 1)) 1 ((upd (r_hi x) 2 ((r_hi x) 1)) 0)) 0 ((nI nd5) - 256))) 1) ((r_ob x) + 1))) := hD
                  refine lv_iload_n hx hb dX5_learn_363 rfl (lv_at hl 1 rfl) ?_
                  have hw9 : (rfW cI b (rs_ob (rs_nd (rs_hi (rs_hi (rs_hi (rs_nd x nd5) (upd (r_hi x) 2 ((r_hi x) 1))) (upd (upd (r_hi x) 2 ((r_hi x) 1)) 1 ((upd (r_hi x) 2 ((r_hi x) 1)) 0))) (upd (upd (upd (r_hi x) 2 ((r_hi x) 1)) 1 ((upd (r_hi x) 2 ((r_hi x) 1)) 0)) 0 ((nI nd5) - 256))) 1) ((r_ob x) + 1))) = (rfW cI b (r_lrn z u)) := by show _ = rfW cI b (r_fin z (r_acl z (r_n (r_l1 z u)) (r_awl z (qual (r_mx u) z) (r_n (r_l1 z u)) (r_l1 z u)))); rw [show r_l1 z u = w1 from by rw [hw1, he0]; rfl, ← hv, ← hx2]; unfold r_fin; rw [← hnd5]; first | (rw [if_pos c9]; try rfl) | (rw [if_neg c9]; try rfl)
                  rw [hw9] at hP hD
                  exact W.iret (v := (qual (r_mx u) z)) hx hb hr (fun t ht hW => ⟨⟨(qual (r_mx u) z), (), rfl, by rfl, by rw [ht]; exact hP, hD⟩, hS.F ht⟩) hS.2.2 dX5_learn_364
              · replace cz2 : ¬ z = (0 : Int32) := cz2
                refine lv_iconst (v := 1) hx hb dX5_learn_289 (by decide) ?_
                refine lv_goto (tgt := 294) hx hb dX5_learn_290 (by decide) ?_
                refine lv_iadd hx hb dX5_learn_294 ?_
                obtain ⟨nd5, hnd5⟩ : ∃ y9 : Nat, y9 = 2 * r_nd x + bz z := ⟨_, rfl⟩
                have hnd6 : nd5 < 600 := by have := bz_le z; omega
                refine topI (y := nI nd5) (by rw [hnd5, bz_1 cz2]; exact nd2 (r_nd x) 1) ?_
                refine va_put (D := D) (ci := 5) (v := .int (nI nd5)) (ty := .int) (C := RX5) (T := TX5) (N := 22) hx hb hts (fun _ h => List.mem_cons_of_mem _ (List.mem_append_right _ h)) tyX5 tyX5_ok nmX5 hown hK hP hD hS 0 rfl rfl 13 (by decide) (hts _ (List.mem_of_getElem? (i := 15) rfl)) (fun _ h9 => h9) rfl (by decide +kernel) rfl rfl (Nat.le_of_ble_eq_true rfl) dX5_learn_295 (fun H locs hP hD hS => ?_)
                rw [rfW_nd] at hP hD
                have hP : va_P D vwCl (rfW cI b (rs_nd x nd5)) H := hP
                have hD : va_D A (rfW cI b (rs_nd x nd5)) := hD
                refine lv_aload_n hx hb dX5_learn_298 rfl (lv_at hl 2 rfl) ?_
                refine va_get (D := D) (ci := 5) (v := .int (nI nd5)) (C := RX5) (T := TX5) (N := 22) hx hb hts (fun _ h => List.mem_cons_of_mem _ (List.mem_append_right _ h)) hown hK hP 0 rfl rfl 13 (by decide) (hts _ (List.mem_of_getElem? (i := 15) rfl)) (fun _ h9 => h9) rfl dX5_learn_299 ?_
                refine lv_sipush (v := 256) hx hb dX5_learn_302 (by decide) ?_
                refine lv_icmp_lt (tgt := 353) hx hb dX5_learn_305 (by decide) (fun c2 => ?_) (fun c2 => ?_)
                · replace c2 : (nI nd5) < (256 : Int32) := c2
                  have c9 : nd5 < 256 := (nI_ltI (b := 256) (by omega) (by omega)).mp c2
                  refine lv_aload_n hx hb dX5_learn_353 rfl (lv_at hl 2 rfl) ?_
                  refine lv_dup hx hb dX5_learn_354 rfl ?_
                  refine va_get (D := D) (ci := 5) (v := .int (r_ob x)) (C := RX5) (T := TX5) (N := 22) hx hb hts (fun _ h => List.mem_cons_of_mem _ (List.mem_append_right _ h)) hown hK hP 0 rfl rfl 14 (by decide) (hts _ (List.mem_of_getElem? (i := 19) rfl)) (fun _ h9 => h9) rfl dX5_learn_355 ?_
                  refine lv_iconst (v := 1) hx hb dX5_learn_358 (by decide) ?_
                  refine lv_iadd hx hb dX5_learn_359 ?_
                  refine va_put (D := D) (ci := 5) (v := .int ((r_ob x) + 1)) (ty := .int) (C := RX5) (T := TX5) (N := 22) hx hb hts (fun _ h => List.mem_cons_of_mem _ (List.mem_append_right _ h)) tyX5 tyX5_ok nmX5 hown hK hP hD hS 0 rfl rfl 14 (by decide) (hts _ (List.mem_of_getElem? (i := 19) rfl)) (fun _ h9 => h9) rfl (by decide +kernel) rfl rfl (Nat.le_of_ble_eq_true rfl) dX5_learn_360 (fun H locs hP hD hS => ?_)
                  rw [rfW_ob] at hP hD
                  have hP : va_P D vwCl (rfW cI b (rs_ob (rs_nd x nd5) ((r_ob x) + 1))) H := hP
                  have hD : va_D A (rfW cI b (rs_ob (rs_nd x nd5) ((r_ob x) + 1))) := hD
                  refine lv_iload_n hx hb dX5_learn_363 rfl (lv_at hl 1 rfl) ?_
                  have hw9 : (rfW cI b (rs_ob (rs_nd x nd5) ((r_ob x) + 1))) = (rfW cI b (r_lrn z u)) := by show _ = rfW cI b (r_fin z (r_acl z (r_n (r_l1 z u)) (r_awl z (qual (r_mx u) z) (r_n (r_l1 z u)) (r_l1 z u)))); rw [show r_l1 z u = w1 from by rw [hw1, he0]; rfl, ← hv, ← hx2]; unfold r_fin; rw [← hnd5]; first | (rw [if_pos c9]; try rfl) | (rw [if_neg c9]; try rfl)
                  rw [hw9] at hP hD
                  exact W.iret (v := (qual (r_mx u) z)) hx hb hr (fun t ht hW => ⟨⟨(qual (r_mx u) z), (), rfl, by rfl, by rw [ht]; exact hP, hD⟩, hS.F ht⟩) hS.2.2 dX5_learn_364
                · replace c2 : ¬ (nI nd5) < (256 : Int32) := c2
                  have c9 : ¬ nd5 < 256 := fun h9 => c2 ((nI_ltI (b := 256) (by omega) (by omega)).mpr h9)
                  refine lv_iconst (v := 2) hx hb dX5_learn_308 (by decide) ?_
                  refine lv_istore_n (lv' := [(3, .int 2), (2, .int (qual (r_mx u) z)), (0, .ref (b 0)), (1, .int z)]) hx hb dX5_learn_309 rfl hl (by decide) rfl (fun ls hl => ?_)
                  refine lv_iload_n hx hb dX5_learn_310 rfl (lv_at hl 0 rfl) ?_
                  refine lv_if_le (tgt := 334) hx hb dX5_learn_311 (by decide) (fun c_4 => absurd c_4 (by decide)) (fun c_4 => ?_)
                  refine lv_aload_n hx hb dX5_learn_314 rfl (lv_at hl 2 rfl) ?_
                  refine va_get (D := D) (ci := 5) (v := .ref (b 10)) (C := RX5) (T := TX5) (N := 22) hx hb hts (fun _ h => List.mem_cons_of_mem _ (List.mem_append_right _ h)) hown hK hP 0 rfl rfl 12 (by decide) (hts _ (List.mem_of_getElem? (i := 18) rfl)) (fun _ h9 => h9) rfl dX5_learn_315 ?_
                  refine lv_iload_n hx hb dX5_learn_318 rfl (lv_at hl 0 rfl) ?_
                  refine lv_aload_n hx hb dX5_learn_319 rfl (lv_at hl 2 rfl) ?_
                  refine va_get (D := D) (ci := 5) (v := .ref (b 10)) (C := RX5) (T := TX5) (N := 22) hx hb hts (fun _ h => List.mem_cons_of_mem _ (List.mem_append_right _ h)) hown hK hP 0 rfl rfl 12 (by decide) (hts _ (List.mem_of_getElem? (i := 18) rfl)) (fun _ h9 => h9) rfl dX5_learn_320 ?_
                  refine lv_iload_n hx hb dX5_learn_323 rfl (lv_at hl 0 rfl) ?_
                  refine lv_iconst (v := 1) hx hb dX5_learn_324 (by decide) ?_
                  refine lv_isub hx hb dX5_learn_325 ?_
                  refine topI (y := 1) (by decide) ?_
                  refine ildN hx hb hK hP 10 0 rfl rfl 1 (by decide) ((Nat.le_of_ble_eq_true rfl)) dX5_learn_326 ?_
                  refine istN hx hb hK hP hD hS 10 0 rfl rfl 2 (by decide) ((Nat.le_of_ble_eq_true rfl)) dX5_learn_327 (fun H locs hP hD hS => ?_)
                  rw [rfW_hi] at hP hD
                  have hP : va_P D vwCl (rfW cI b (rs_hi (rs_nd x nd5) (upd (r_hi x) 2 ((r_hi x) 1)))) H := hP
                  have hD : va_D A (rfW cI b (rs_hi (rs_nd x nd5) (upd (r_hi x) 2 ((r_hi x) 1)))) := hD
                  refine lv_iinc (v := 1) (lv' := [(3, .int 1), (2, .int (qual (r_mx u) z)), (0, .ref (b 0)), (1, .int z)]) hx hb dX5_learn_328 hl (k := 0) rfl (by decide) (by decide) rfl (fun ls hl => ?_)
                  refine lv_goto (tgt := 310) hx hb dX5_learn_331 (by decide) ?_
                  refine lv_iload_n hx hb dX5_learn_310 rfl (lv_at hl 0 rfl) ?_
                  refine lv_if_le (tgt := 334) hx hb dX5_learn_311 (by decide) (fun c_5 => absurd c_5 (by decide)) (fun c_5 => ?_)
                  refine lv_aload_n hx hb dX5_learn_314 rfl (lv_at hl 2 rfl) ?_
                  refine va_get (D := D) (ci := 5) (v := .ref (b 10)) (C := RX5) (T := TX5) (N := 22) hx hb hts (fun _ h => List.mem_cons_of_mem _ (List.mem_append_right _ h)) hown hK hP 0 rfl rfl 12 (by decide) (hts _ (List.mem_of_getElem? (i := 18) rfl)) (fun _ h9 => h9) rfl dX5_learn_315 ?_
                  refine lv_iload_n hx hb dX5_learn_318 rfl (lv_at hl 0 rfl) ?_
                  refine lv_aload_n hx hb dX5_learn_319 rfl (lv_at hl 2 rfl) ?_
                  refine va_get (D := D) (ci := 5) (v := .ref (b 10)) (C := RX5) (T := TX5) (N := 22) hx hb hts (fun _ h => List.mem_cons_of_mem _ (List.mem_append_right _ h)) hown hK hP 0 rfl rfl 12 (by decide) (hts _ (List.mem_of_getElem? (i := 18) rfl)) (fun _ h9 => h9) rfl dX5_learn_320 ?_
                  refine lv_iload_n hx hb dX5_learn_323 rfl (lv_at hl 0 rfl) ?_
                  refine lv_iconst (v := 1) hx hb dX5_learn_324 (by decide) ?_
                  refine lv_isub hx hb dX5_learn_325 ?_
                  refine topI (y := 0) (by decide) ?_
                  refine ildN hx hb hK hP 10 0 rfl rfl 0 (by decide) ((Nat.le_of_ble_eq_true rfl)) dX5_learn_326 ?_
                  refine istN hx hb hK hP hD hS 10 0 rfl rfl 1 (by decide) ((Nat.le_of_ble_eq_true rfl)) dX5_learn_327 (fun H locs hP hD hS => ?_)
                  rw [rfW_hi] at hP hD
                  have hP : va_P D vwCl (rfW cI b (rs_hi (rs_hi (rs_nd x nd5) (upd (r_hi x) 2 ((r_hi x) 1))) (upd (upd (r_hi x) 2 ((r_hi x) 1)) 1 ((upd (r_hi x) 2 ((r_hi x) 1)) 0)))) H := hP
                  have hD : va_D A (rfW cI b (rs_hi (rs_hi (rs_nd x nd5) (upd (r_hi x) 2 ((r_hi x) 1))) (upd (upd (r_hi x) 2 ((r_hi x) 1)) 1 ((upd (r_hi x) 2 ((r_hi x) 1)) 0)))) := hD
                  refine lv_iinc (v := 0) (lv' := [(3, .int 0), (2, .int (qual (r_mx u) z)), (0, .ref (b 0)), (1, .int z)]) hx hb dX5_learn_328 hl (k := 0) rfl (by decide) (by decide) rfl (fun ls hl => ?_)
                  refine lv_goto (tgt := 310) hx hb dX5_learn_331 (by decide) ?_
                  refine lv_iload_n hx hb dX5_learn_310 rfl (lv_at hl 0 rfl) ?_
                  refine lv_if_le (tgt := 334) hx hb dX5_learn_311 (by decide) (fun c_6 => ?_) (fun c_6 => absurd (by decide) c_6)
                  refine lv_aload_n hx hb dX5_learn_334 rfl (lv_at hl 2 rfl) ?_
                  refine va_get (D := D) (ci := 5) (v := .ref (b 10)) (C := RX5) (T := TX5) (N := 22) hx hb hts (fun _ h => List.mem_cons_of_mem _ (List.mem_append_right _ h)) hown hK hP 0 rfl rfl 12 (by decide) (hts _ (List.mem_of_getElem? (i := 18) rfl)) (fun _ h9 => h9) rfl dX5_learn_335 ?_
                  refine lv_iconst (v := 0) hx hb dX5_learn_338 (by decide) ?_
                  refine lv_aload_n hx hb dX5_learn_339 rfl (lv_at hl 2 rfl) ?_
                  refine va_get (D := D) (ci := 5) (v := .int (nI nd5)) (C := RX5) (T := TX5) (N := 22) hx hb hts (fun _ h => List.mem_cons_of_mem _ (List.mem_append_right _ h)) hown hK hP 0 rfl rfl 13 (by decide) (hts _ (List.mem_of_getElem? (i := 15) rfl)) (fun _ h9 => h9) rfl dX5_learn_340 ?_
                  refine lv_sipush (v := 256) hx hb dX5_learn_343 (by decide) ?_
                  refine lv_isub hx hb dX5_learn_346 ?_
                  refine istN hx hb hK hP hD hS 10 0 rfl rfl 0 (by decide) ((Nat.le_of_ble_eq_true rfl)) dX5_learn_347 (fun H locs hP hD hS => ?_)
                  rw [rfW_hi] at hP hD
                  have hP : va_P D vwCl (rfW cI b (rs_hi (rs_hi (rs_hi (rs_nd x nd5) (upd (r_hi x) 2 ((r_hi x) 1))) (upd (upd (r_hi x) 2 ((r_hi x) 1)) 1 ((upd (r_hi x) 2 ((r_hi x) 1)) 0))) (upd (upd (upd (r_hi x) 2 ((r_hi x) 1)) 1 ((upd (r_hi x) 2 ((r_hi x) 1)) 0)) 0 ((nI nd5) - 256)))) H := hP
                  have hD : va_D A (rfW cI b (rs_hi (rs_hi (rs_hi (rs_nd x nd5) (upd (r_hi x) 2 ((r_hi x) 1))) (upd (upd (r_hi x) 2 ((r_hi x) 1)) 1 ((upd (r_hi x) 2 ((r_hi x) 1)) 0))) (upd (upd (upd (r_hi x) 2 ((r_hi x) 1)) 1 ((upd (r_hi x) 2 ((r_hi x) 1)) 0)) 0 ((nI nd5) - 256)))) := hD
                  refine lv_aload_n hx hb dX5_learn_348 rfl (lv_at hl 2 rfl) ?_
                  refine lv_iconst (v := 1) hx hb dX5_learn_349 (by decide) ?_
                  refine topI (y := nI 1) rfl ?_
                  refine va_put (D := D) (ci := 5) (v := .int (nI 1)) (ty := .int) (C := RX5) (T := TX5) (N := 22) hx hb hts (fun _ h => List.mem_cons_of_mem _ (List.mem_append_right _ h)) tyX5 tyX5_ok nmX5 hown hK hP hD hS 0 rfl rfl 13 (by decide) (hts _ (List.mem_of_getElem? (i := 15) rfl)) (fun _ h9 => h9) rfl (by decide +kernel) rfl rfl (Nat.le_of_ble_eq_true rfl) dX5_learn_350 (fun H locs hP hD hS => ?_)
                  rw [rfW_nd] at hP hD
                  have hP : va_P D vwCl (rfW cI b (rs_nd (rs_hi (rs_hi (rs_hi (rs_nd x nd5) (upd (r_hi x) 2 ((r_hi x) 1))) (upd (upd (r_hi x) 2 ((r_hi x) 1)) 1 ((upd (r_hi x) 2 ((r_hi x) 1)) 0))) (upd (upd (upd (r_hi x) 2 ((r_hi x) 1)) 1 ((upd (r_hi x) 2 ((r_hi x) 1)) 0)) 0 ((nI nd5) - 256))) 1)) H := hP
                  have hD : va_D A (rfW cI b (rs_nd (rs_hi (rs_hi (rs_hi (rs_nd x nd5) (upd (r_hi x) 2 ((r_hi x) 1))) (upd (upd (r_hi x) 2 ((r_hi x) 1)) 1 ((upd (r_hi x) 2 ((r_hi x) 1)) 0))) (upd (upd (upd (r_hi x) 2 ((r_hi x) 1)) 1 ((upd (r_hi x) 2 ((r_hi x) 1)) 0)) 0 ((nI nd5) - 256))) 1)) := hD
                  refine lv_aload_n hx hb dX5_learn_353 rfl (lv_at hl 2 rfl) ?_
                  refine lv_dup hx hb dX5_learn_354 rfl ?_
                  refine va_get (D := D) (ci := 5) (v := .int (r_ob x)) (C := RX5) (T := TX5) (N := 22) hx hb hts (fun _ h => List.mem_cons_of_mem _ (List.mem_append_right _ h)) hown hK hP 0 rfl rfl 14 (by decide) (hts _ (List.mem_of_getElem? (i := 19) rfl)) (fun _ h9 => h9) rfl dX5_learn_355 ?_
                  refine lv_iconst (v := 1) hx hb dX5_learn_358 (by decide) ?_
                  refine lv_iadd hx hb dX5_learn_359 ?_
                  refine va_put (D := D) (ci := 5) (v := .int ((r_ob x) + 1)) (ty := .int) (C := RX5) (T := TX5) (N := 22) hx hb hts (fun _ h => List.mem_cons_of_mem _ (List.mem_append_right _ h)) tyX5 tyX5_ok nmX5 hown hK hP hD hS 0 rfl rfl 14 (by decide) (hts _ (List.mem_of_getElem? (i := 19) rfl)) (fun _ h9 => h9) rfl (by decide +kernel) rfl rfl (Nat.le_of_ble_eq_true rfl) dX5_learn_360 (fun H locs hP hD hS => ?_)
                  rw [rfW_ob] at hP hD
                  have hP : va_P D vwCl (rfW cI b (rs_ob (rs_nd (rs_hi (rs_hi (rs_hi (rs_nd x nd5) (upd (r_hi x) 2 ((r_hi x) 1))) (upd (upd (r_hi x) 2 ((r_hi x) 1)) 1 ((upd (r_hi x) 2 ((r_hi x) 1)) 0))) (upd (upd (upd (r_hi x) 2 ((r_hi x) 1)) 1 ((upd (r_hi x) 2 ((r_hi x) 1)) 0)) 0 ((nI nd5) - 256))) 1) ((r_ob x) + 1))) H := hP
                  have hD : va_D A (rfW cI b (rs_ob (rs_nd (rs_hi (rs_hi (rs_hi (rs_nd x nd5) (upd (r_hi x) 2 ((r_hi x) 1))) (upd (upd (r_hi x) 2 ((r_hi x) 1)) 1 ((upd (r_hi x) 2 ((r_hi x) 1)) 0))) (upd (upd (upd (r_hi x) 2 ((r_hi x) 1)) 1 ((upd (r_hi x) 2 ((r_hi x) 1)) 0)) 0 ((nI nd5) - 256))) 1) ((r_ob x) + 1))) := hD
                  refine lv_iload_n hx hb dX5_learn_363 rfl (lv_at hl 1 rfl) ?_
                  have hw9 : (rfW cI b (rs_ob (rs_nd (rs_hi (rs_hi (rs_hi (rs_nd x nd5) (upd (r_hi x) 2 ((r_hi x) 1))) (upd (upd (r_hi x) 2 ((r_hi x) 1)) 1 ((upd (r_hi x) 2 ((r_hi x) 1)) 0))) (upd (upd (upd (r_hi x) 2 ((r_hi x) 1)) 1 ((upd (r_hi x) 2 ((r_hi x) 1)) 0)) 0 ((nI nd5) - 256))) 1) ((r_ob x) + 1))) = (rfW cI b (r_lrn z u)) := by show _ = rfW cI b (r_fin z (r_acl z (r_n (r_l1 z u)) (r_awl z (qual (r_mx u) z) (r_n (r_l1 z u)) (r_l1 z u)))); rw [show r_l1 z u = w1 from by rw [hw1, he0]; rfl, ← hv, ← hx2]; unfold r_fin; rw [← hnd5]; first | (rw [if_pos c9]; try rfl) | (rw [if_neg c9]; try rfl)
                  rw [hw9] at hP hD
                  exact W.iret (v := (qual (r_mx u) z)) hx hb hr (fun t ht hW => ⟨⟨(qual (r_mx u) z), (), rfl, by rfl, by rw [ht]; exact hP, hD⟩, hS.F ht⟩) hS.2.2 dX5_learn_364
            · replace cj : ¬ (nI (r_n x)) ≤ (nI j) := cj
              have hjn : j < r_n w1 := by have h8 := nge_N (by omega) (by omega) cj; omega
              have hj6 : j < 6 := by omega
              obtain ⟨hod, hlo, hix⟩ := hsj j (by omega)
              refine lv_sipush (v := 512) hx hb dX5_learn_136 (by decide) ?_
              refine lv_iload_n hx hb dX5_learn_139 rfl (lv_at hl 0 rfl) ?_
              refine lv_imul hx hb dX5_learn_140 ?_
              refine lv_aload_n hx hb dX5_learn_141 rfl (lv_at hl 2 rfl) ?_
              refine lv_iload_n hx hb dX5_learn_142 rfl (lv_at hl 0 rfl) ?_
              refine kIa (rVa (As := [.int (nI j)]) (rest := [.int (512 * (nI j))]) ⟨hx, hb, hml, hown, hts⟩ (c_X5_indexOf l D cI cL cM _ b x j hj6 hod hlo) (cwV 1 hts gX5_learn_X5_indexOf rfl rfl rfl (by decide +kernel) ⟨(Nat.le_of_ble_eq_true rfl), (Nat.le_of_ble_eq_true rfl)⟩) hE hP hD hS hA 0 rfl rfl rfl hl.1 rfl (Nat.le_of_ble_eq_true rfl) dX5_learn_143 ⟨(Nat.le_of_ble_eq_true rfl), (Nat.le_of_ble_eq_true rfl)⟩) hS (fun H locs hP hD hS => ?_)
              have hP : va_P D vwCl (rfW cI b x) H := hP
              have hD : va_D A (rfW cI b x) := hD
              obtain ⟨at4, hat4⟩ : ∃ y9 : Nat, y9 = r_at x j := ⟨_, rfl⟩
              have hat : at4 < 3072 := by rw [hat4]; exact r_at_lt hj6 hix
              refine lv_iadd hx hb dX5_learn_146 ?_
              refine topI (y := nI at4) (by rw [hat4]; exact ixI hj6 hix) ?_
              refine lv_istore (lv' := [(4, .int (nI at4)), (3, .int (nI j)), (2, .int (qual (r_mx u) z)), (0, .ref (b 0)), (1, .int z)]) hx hb dX5_learn_147 hl (by decide) rfl (fun ls hl => ?_)
              refine lv_aload_n hx hb dX5_learn_149 rfl (lv_at hl 3 rfl) ?_
              refine va_get (D := D) (ci := 5) (v := .ref (b 5)) (C := RX5) (T := TX5) (N := 22) hx hb hts (fun _ h => List.mem_cons_of_mem _ (List.mem_append_right _ h)) hown hK hP 0 rfl rfl 7 (by decide) (hts _ (List.mem_of_getElem? (i := 12) rfl)) (fun _ h9 => h9) rfl dX5_learn_150 ?_
              refine lv_iload hx hb dX5_learn_153 (lv_at hl 0 rfl) ?_
              refine ildN hx hb hK hP 5 0 rfl rfl at4 (hat) ((Nat.le_of_ble_eq_true rfl)) dX5_learn_155 ?_
              refine lv_topi (fun p5 hp5 => ?_)
              refine lv_istore (lv' := [(5, .int p5), (4, .int (nI at4)), (3, .int (nI j)), (2, .int (qual (r_mx u) z)), (0, .ref (b 0)), (1, .int z)]) hx hb dX5_learn_156 hl (by decide) rfl (fun ls hl => ?_)
              refine lv_aload_n hx hb dX5_learn_158 rfl (lv_at hl 4 rfl) ?_
              refine va_get (D := D) (ci := 5) (v := .ref (b 5)) (C := RX5) (T := TX5) (N := 22) hx hb hts (fun _ h => List.mem_cons_of_mem _ (List.mem_append_right _ h)) hown hK hP 0 rfl rfl 7 (by decide) (hts _ (List.mem_of_getElem? (i := 12) rfl)) (fun _ h9 => h9) rfl dX5_learn_159 ?_
              refine lv_iload hx hb dX5_learn_162 (lv_at hl 1 rfl) ?_
              refine lv_iload_n hx hb dX5_learn_164 rfl (lv_at hl 5 rfl) ?_
              refine lv_if_eq (tgt := 187) hx hb dX5_learn_165 (by decide) (fun cz => ?_) (fun cz => ?_)
              · replace cz : z = (0 : Int32) := cz
                refine lv_iload hx hb dX5_learn_187 (lv_at hl 0 rfl) ?_
                refine lv_iload hx hb dX5_learn_189 (lv_at hl 0 rfl) ?_
                refine lv_aload_n hx hb dX5_learn_191 rfl (lv_at hl 4 rfl) ?_
                refine va_get (D := D) (ci := 5) (v := .ref (b 2)) (C := RX5) (T := TX5) (N := 22) hx hb hts (fun _ h => List.mem_cons_of_mem _ (List.mem_append_right _ h)) hown hK hP 0 rfl rfl 3 (by decide) (hts _ (List.mem_of_getElem? (i := 13) rfl)) (fun _ h9 => h9) rfl dX5_learn_192 ?_
                refine lv_iload_n hx hb dX5_learn_195 rfl (lv_at hl 2 rfl) ?_
                refine ildN hx hb hK hP 2 0 rfl rfl j (hj6) ((Nat.le_of_ble_eq_true rfl)) dX5_learn_196 ?_
                refine lv_ishr hx hb dX5_learn_197 ?_
                refine lv_isub hx hb dX5_learn_198 ?_
                refine lv_topi (fun y5 hy5 => ?_)
                refine istN hx hb hK hP hD hS 5 0 rfl rfl at4 (hat) ((Nat.le_of_ble_eq_true rfl)) dX5_learn_199 (fun H locs hP hD hS => ?_)
                rw [rfW_co] at hP hD
                have hP : va_P D vwCl (rfW cI b (rs_co x (upd (r_co x) at4 y5))) H := hP
                have hD : va_D A (rfW cI b (rs_co x (upd (r_co x) at4 y5))) := hD
                refine lv_aload_n hx hb dX5_learn_200 rfl (lv_at hl 4 rfl) ?_
                refine va_get (D := D) (ci := 5) (v := .ref (b 7)) (C := RX5) (T := TX5) (N := 22) hx hb hts (fun _ h => List.mem_cons_of_mem _ (List.mem_append_right _ h)) hown hK hP 0 rfl rfl 9 (by decide) (hts _ (List.mem_of_getElem? (i := 14) rfl)) (fun _ h9 => h9) rfl dX5_learn_201 ?_
                refine lv_iload hx hb dX5_learn_204 (lv_at hl 1 rfl) ?_
                refine ildN hx hb hK hP 7 0 rfl rfl at4 (hat) ((Nat.le_of_ble_eq_true rfl)) dX5_learn_206 ?_
                refine lv_if_eq (tgt := 249) hx hb dX5_learn_207 (by decide) (fun cl0 => ?_) (fun cl0 => ?_)
                · replace cl0 : ((r_ln x) at4) = (0 : Int32) := cl0
                  refine lv_aload_n hx hb dX5_learn_249 rfl (lv_at hl 4 rfl) ?_
                  refine va_get (D := D) (ci := 5) (v := .ref (b 7)) (C := RX5) (T := TX5) (N := 22) hx hb hts (fun _ h => List.mem_cons_of_mem _ (List.mem_append_right _ h)) hown hK hP 0 rfl rfl 9 (by decide) (hts _ (List.mem_of_getElem? (i := 14) rfl)) (fun _ h9 => h9) rfl dX5_learn_250 ?_
                  refine lv_iload hx hb dX5_learn_253 (lv_at hl 1 rfl) ?_
                  refine lv_aload_n hx hb dX5_learn_255 rfl (lv_at hl 4 rfl) ?_
                  refine va_get (D := D) (ci := 5) (v := .int (nI (r_nd x))) (C := RX5) (T := TX5) (N := 22) hx hb hts (fun _ h => List.mem_cons_of_mem _ (List.mem_append_right _ h)) hown hK hP 0 rfl rfl 13 (by decide) (hts _ (List.mem_of_getElem? (i := 15) rfl)) (fun _ h9 => h9) rfl dX5_learn_256 ?_
                  refine istN hx hb hK hP hD hS 7 0 rfl rfl at4 (hat) ((Nat.le_of_ble_eq_true rfl)) dX5_learn_259 (fun H locs hP hD hS => ?_)
                  rw [rfW_ln] at hP hD
                  have hP : va_P D vwCl (rfW cI b (rs_ln (rs_co x (upd (r_co x) at4 y5)) (upd (r_ln x) at4 (nI (r_nd x))))) H := hP
                  have hD : va_D A (rfW cI b (rs_ln (rs_co x (upd (r_co x) at4 y5)) (upd (r_ln x) at4 (nI (r_nd x))))) := hD
                  refine lv_aload_n hx hb dX5_learn_260 rfl (lv_at hl 4 rfl) ?_
                  refine va_get (D := D) (ci := 5) (v := .ref (b 6)) (C := RX5) (T := TX5) (N := 22) hx hb hts (fun _ h => List.mem_cons_of_mem _ (List.mem_append_right _ h)) hown hK hP 0 rfl rfl 8 (by decide) (hts _ (List.mem_of_getElem? (i := 16) rfl)) (fun _ h9 => h9) rfl dX5_learn_261 ?_
                  refine lv_iload hx hb dX5_learn_264 (lv_at hl 1 rfl) ?_
                  refine lv_aload_n hx hb dX5_learn_266 rfl (lv_at hl 4 rfl) ?_
                  refine lv_iload_n hx hb dX5_learn_267 rfl (lv_at hl 2 rfl) ?_
                  refine kIa (rVa (As := [.int (nI j)]) (rest := [.int (nI at4), .ref (b 6)]) ⟨hx, hb, hml, hown, hts⟩ (c_X5_context l D cI cL cM _ b (rs_ln (rs_co x (upd (r_co x) at4 y5)) (upd (r_ln x) at4 (nI (r_nd x)))) j hj6 hod) (cwV 1 hts gX5_learn_X5_context rfl rfl rfl (by decide +kernel) ⟨(Nat.le_of_ble_eq_true rfl), (Nat.le_of_ble_eq_true rfl)⟩) hE hP hD hS hA 0 rfl rfl rfl hl.1 rfl (Nat.le_of_ble_eq_true rfl) dX5_learn_268 ⟨(Nat.le_of_ble_eq_true rfl), (Nat.le_of_ble_eq_true rfl)⟩) hS (fun H locs hP hD hS => ?_)
                  have hP : va_P D vwCl (rfW cI b (rs_ln (rs_co x (upd (r_co x) at4 y5)) (upd (r_ln x) at4 (nI (r_nd x))))) H := hP
                  have hD : va_D A (rfW cI b (rs_ln (rs_co x (upd (r_co x) at4 y5)) (upd (r_ln x) at4 (nI (r_nd x))))) := hD
                  refine topI (y := r_ctx x j) (r_ctx_eq (by simp only [sh_co, sh_lc, sh_ln, sh_cl])) ?_
                  refine istN hx hb hK hP hD hS 6 0 rfl rfl at4 (hat) ((Nat.le_of_ble_eq_true rfl)) dX5_learn_271 (fun H locs hP hD hS => ?_)
                  rw [rfW_lc] at hP hD
                  have hP : va_P D vwCl (rfW cI b (rs_ln (rs_lc (rs_co x (upd (r_co x) at4 y5)) (upd (r_lc x) at4 (r_ctx x j))) (upd (r_ln x) at4 (nI (r_nd x))))) H := hP
                  have hD : va_D A (rfW cI b (rs_ln (rs_lc (rs_co x (upd (r_co x) at4 y5)) (upd (r_lc x) at4 (r_ctx x j))) (upd (r_ln x) at4 (nI (r_nd x))))) := hD
                  refine lv_iinc (v := nI (j + 1)) (lv' := [(3, .int (nI (j + 1))), (5, .int p5), (4, .int (nI at4)), (2, .int (qual (r_mx u) z)), (0, .ref (b 0)), (1, .int z)]) hx hb dX5_learn_272 hl (k := 2) rfl (nI_1 _) (by decide) rfl (fun ls hl => ?_)
                  refine lv_goto (tgt := 128) hx hb dX5_learn_275 (by decide) ?_
                  subst hy5
                  subst hp5
                  subst hat4
                  exact ih_lp2 (j + 1) (rs_ln (rs_lc (rs_co x (upd (r_co x) (r_at x j) (((r_co x) (r_at x j)) - (((r_co x) (r_at x j)) >>> (((r_ra x) j) &&& 31))))) (upd (r_lc x) (r_at x j) (r_ctx x j))) (upd (r_ln x) (r_at x j) (nI (r_nd x)))) (by omega) (by simp only [sh_co, sh_lc, sh_ln, sh_cl]; exact hsx) (by show (rs_ln (rs_lc (rs_co x (upd (r_co x) (r_at x j) (((r_co x) (r_at x j)) - (((r_co x) (r_at x j)) >>> (((r_ra x) j) &&& 31))))) (upd (r_lc x) (r_at x j) (r_ctx x j))) (upd (r_ln x) (r_at x j) (nI (r_nd x)))) = r_ac1 z j (r_acl z j v); rw [← hx2]; unfold r_ac1 r_acB cUp cDn; (try rw [if_pos cz]); (try rw [if_pos cl0]); try rfl) (by omega) _ _ hP hD hS ls (lv_sub hl [0, 3, 4, 5] rfl)
                · replace cl0 : ¬ ((r_ln x) at4) = (0 : Int32) := cl0
                  refine lv_aload_n hx hb dX5_learn_210 rfl (lv_at hl 4 rfl) ?_
                  refine va_get (D := D) (ci := 5) (v := .ref (b 7)) (C := RX5) (T := TX5) (N := 22) hx hb hts (fun _ h => List.mem_cons_of_mem _ (List.mem_append_right _ h)) hown hK hP 0 rfl rfl 9 (by decide) (hts _ (List.mem_of_getElem? (i := 14) rfl)) (fun _ h9 => h9) rfl dX5_learn_211 ?_
                  refine lv_iload hx hb dX5_learn_214 (lv_at hl 1 rfl) ?_
                  refine ildN hx hb hK hP 7 0 rfl rfl at4 (hat) ((Nat.le_of_ble_eq_true rfl)) dX5_learn_216 ?_
                  refine lv_aload_n hx hb dX5_learn_217 rfl (lv_at hl 4 rfl) ?_
                  refine va_get (D := D) (ci := 5) (v := .int (nI (r_nd x))) (C := RX5) (T := TX5) (N := 22) hx hb hts (fun _ h => List.mem_cons_of_mem _ (List.mem_append_right _ h)) hown hK hP 0 rfl rfl 13 (by decide) (hts _ (List.mem_of_getElem? (i := 15) rfl)) (fun _ h9 => h9) rfl dX5_learn_218 ?_
                  refine lv_icmp_ne (tgt := 239) hx hb dX5_learn_221 (by decide) (fun cnd => ?_) (fun cnd => ?_)
                  · replace cnd : ¬ ((r_ln x) at4) = (nI (r_nd x)) := cnd
                    refine lv_aload_n hx hb dX5_learn_239 rfl (lv_at hl 4 rfl) ?_
                    refine va_get (D := D) (ci := 5) (v := .ref (b 9)) (C := RX5) (T := TX5) (N := 22) hx hb hts (fun _ h => List.mem_cons_of_mem _ (List.mem_append_right _ h)) hown hK hP 0 rfl rfl 11 (by decide) (hts _ (List.mem_of_getElem? (i := 17) rfl)) (fun _ h9 => h9) rfl dX5_learn_240 ?_
                    refine lv_iload_n hx hb dX5_learn_243 rfl (lv_at hl 2 rfl) ?_
                    refine lv_dup2_11 hx hb dX5_learn_244 rfl rfl ?_
                    refine ildN hx hb hK hP 9 0 rfl rfl j (hj6) ((Nat.le_of_ble_eq_true rfl)) dX5_learn_245 ?_
                    refine lv_iconst (v := 1) hx hb dX5_learn_246 (by decide) ?_
                    refine lv_iadd hx hb dX5_learn_247 ?_
                    refine lv_topi (fun y6 hy6 => ?_)
                    refine istN hx hb hK hP hD hS 9 0 rfl rfl j (hj6) ((Nat.le_of_ble_eq_true rfl)) dX5_learn_248 (fun H locs hP hD hS => ?_)
                    rw [rfW_cl] at hP hD
                    have hP : va_P D vwCl (rfW cI b (rs_cl (rs_co x (upd (r_co x) at4 y5)) (upd (r_cl x) j y6))) H := hP
                    have hD : va_D A (rfW cI b (rs_cl (rs_co x (upd (r_co x) at4 y5)) (upd (r_cl x) j y6))) := hD
                    refine lv_aload_n hx hb dX5_learn_249 rfl (lv_at hl 4 rfl) ?_
                    refine va_get (D := D) (ci := 5) (v := .ref (b 7)) (C := RX5) (T := TX5) (N := 22) hx hb hts (fun _ h => List.mem_cons_of_mem _ (List.mem_append_right _ h)) hown hK hP 0 rfl rfl 9 (by decide) (hts _ (List.mem_of_getElem? (i := 14) rfl)) (fun _ h9 => h9) rfl dX5_learn_250 ?_
                    refine lv_iload hx hb dX5_learn_253 (lv_at hl 1 rfl) ?_
                    refine lv_aload_n hx hb dX5_learn_255 rfl (lv_at hl 4 rfl) ?_
                    refine va_get (D := D) (ci := 5) (v := .int (nI (r_nd x))) (C := RX5) (T := TX5) (N := 22) hx hb hts (fun _ h => List.mem_cons_of_mem _ (List.mem_append_right _ h)) hown hK hP 0 rfl rfl 13 (by decide) (hts _ (List.mem_of_getElem? (i := 15) rfl)) (fun _ h9 => h9) rfl dX5_learn_256 ?_
                    refine istN hx hb hK hP hD hS 7 0 rfl rfl at4 (hat) ((Nat.le_of_ble_eq_true rfl)) dX5_learn_259 (fun H locs hP hD hS => ?_)
                    rw [rfW_ln] at hP hD
                    have hP : va_P D vwCl (rfW cI b (rs_cl (rs_ln (rs_co x (upd (r_co x) at4 y5)) (upd (r_ln x) at4 (nI (r_nd x)))) (upd (r_cl x) j y6))) H := hP
                    have hD : va_D A (rfW cI b (rs_cl (rs_ln (rs_co x (upd (r_co x) at4 y5)) (upd (r_ln x) at4 (nI (r_nd x)))) (upd (r_cl x) j y6))) := hD
                    refine lv_aload_n hx hb dX5_learn_260 rfl (lv_at hl 4 rfl) ?_
                    refine va_get (D := D) (ci := 5) (v := .ref (b 6)) (C := RX5) (T := TX5) (N := 22) hx hb hts (fun _ h => List.mem_cons_of_mem _ (List.mem_append_right _ h)) hown hK hP 0 rfl rfl 8 (by decide) (hts _ (List.mem_of_getElem? (i := 16) rfl)) (fun _ h9 => h9) rfl dX5_learn_261 ?_
                    refine lv_iload hx hb dX5_learn_264 (lv_at hl 1 rfl) ?_
                    refine lv_aload_n hx hb dX5_learn_266 rfl (lv_at hl 4 rfl) ?_
                    refine lv_iload_n hx hb dX5_learn_267 rfl (lv_at hl 2 rfl) ?_
                    refine kIa (rVa (As := [.int (nI j)]) (rest := [.int (nI at4), .ref (b 6)]) ⟨hx, hb, hml, hown, hts⟩ (c_X5_context l D cI cL cM _ b (rs_cl (rs_ln (rs_co x (upd (r_co x) at4 y5)) (upd (r_ln x) at4 (nI (r_nd x)))) (upd (r_cl x) j y6)) j hj6 hod) (cwV 1 hts gX5_learn_X5_context rfl rfl rfl (by decide +kernel) ⟨(Nat.le_of_ble_eq_true rfl), (Nat.le_of_ble_eq_true rfl)⟩) hE hP hD hS hA 0 rfl rfl rfl hl.1 rfl (Nat.le_of_ble_eq_true rfl) dX5_learn_268 ⟨(Nat.le_of_ble_eq_true rfl), (Nat.le_of_ble_eq_true rfl)⟩) hS (fun H locs hP hD hS => ?_)
                    have hP : va_P D vwCl (rfW cI b (rs_cl (rs_ln (rs_co x (upd (r_co x) at4 y5)) (upd (r_ln x) at4 (nI (r_nd x)))) (upd (r_cl x) j y6))) H := hP
                    have hD : va_D A (rfW cI b (rs_cl (rs_ln (rs_co x (upd (r_co x) at4 y5)) (upd (r_ln x) at4 (nI (r_nd x)))) (upd (r_cl x) j y6))) := hD
                    refine topI (y := r_ctx x j) (r_ctx_eq (by simp only [sh_co, sh_lc, sh_ln, sh_cl])) ?_
                    refine istN hx hb hK hP hD hS 6 0 rfl rfl at4 (hat) ((Nat.le_of_ble_eq_true rfl)) dX5_learn_271 (fun H locs hP hD hS => ?_)
                    rw [rfW_lc] at hP hD
                    have hP : va_P D vwCl (rfW cI b (rs_cl (rs_ln (rs_lc (rs_co x (upd (r_co x) at4 y5)) (upd (r_lc x) at4 (r_ctx x j))) (upd (r_ln x) at4 (nI (r_nd x)))) (upd (r_cl x) j y6))) H := hP
                    have hD : va_D A (rfW cI b (rs_cl (rs_ln (rs_lc (rs_co x (upd (r_co x) at4 y5)) (upd (r_lc x) at4 (r_ctx x j))) (upd (r_ln x) at4 (nI (r_nd x)))) (upd (r_cl x) j y6))) := hD
                    refine lv_iinc (v := nI (j + 1)) (lv' := [(3, .int (nI (j + 1))), (5, .int p5), (4, .int (nI at4)), (2, .int (qual (r_mx u) z)), (0, .ref (b 0)), (1, .int z)]) hx hb dX5_learn_272 hl (k := 2) rfl (nI_1 _) (by decide) rfl (fun ls hl => ?_)
                    refine lv_goto (tgt := 128) hx hb dX5_learn_275 (by decide) ?_
                    subst hy6
                    subst hy5
                    subst hp5
                    subst hat4
                    exact ih_lp2 (j + 1) (rs_cl (rs_ln (rs_lc (rs_co x (upd (r_co x) (r_at x j) (((r_co x) (r_at x j)) - (((r_co x) (r_at x j)) >>> (((r_ra x) j) &&& 31))))) (upd (r_lc x) (r_at x j) (r_ctx x j))) (upd (r_ln x) (r_at x j) (nI (r_nd x)))) (upd (r_cl x) j (((r_cl x) j) + 1))) (by omega) (by simp only [sh_co, sh_lc, sh_ln, sh_cl]; exact hsx) (by show (rs_cl (rs_ln (rs_lc (rs_co x (upd (r_co x) (r_at x j) (((r_co x) (r_at x j)) - (((r_co x) (r_at x j)) >>> (((r_ra x) j) &&& 31))))) (upd (r_lc x) (r_at x j) (r_ctx x j))) (upd (r_ln x) (r_at x j) (nI (r_nd x)))) (upd (r_cl x) j (((r_cl x) j) + 1))) = r_ac1 z j (r_acl z j v); rw [← hx2]; unfold r_ac1 r_acB cUp cDn; (try rw [if_pos cz]); (try rw [if_neg cl0]); (try rw [if_neg cnd]); try rfl) (by omega) _ _ hP hD hS ls (lv_sub hl [0, 3, 4, 5] rfl)
                  · replace cnd : ((r_ln x) at4) = (nI (r_nd x)) := cnd
                    refine lv_aload_n hx hb dX5_learn_224 rfl (lv_at hl 4 rfl) ?_
                    refine va_get (D := D) (ci := 5) (v := .ref (b 6)) (C := RX5) (T := TX5) (N := 22) hx hb hts (fun _ h => List.mem_cons_of_mem _ (List.mem_append_right _ h)) hown hK hP 0 rfl rfl 8 (by decide) (hts _ (List.mem_of_getElem? (i := 16) rfl)) (fun _ h9 => h9) rfl dX5_learn_225 ?_
                    refine lv_iload hx hb dX5_learn_228 (lv_at hl 1 rfl) ?_
                    refine ildN hx hb hK hP 6 0 rfl rfl at4 (hat) ((Nat.le_of_ble_eq_true rfl)) dX5_learn_230 ?_
                    refine lv_aload_n hx hb dX5_learn_231 rfl (lv_at hl 4 rfl) ?_
                    refine lv_iload_n hx hb dX5_learn_232 rfl (lv_at hl 2 rfl) ?_
                    refine kIa (rVa (As := [.int (nI j)]) (rest := [.int ((r_lc x) at4)]) ⟨hx, hb, hml, hown, hts⟩ (c_X5_context l D cI cL cM _ b (rs_co x (upd (r_co x) at4 y5)) j hj6 hod) (cwV 1 hts gX5_learn_X5_context rfl rfl rfl (by decide +kernel) ⟨(Nat.le_of_ble_eq_true rfl), (Nat.le_of_ble_eq_true rfl)⟩) hE hP hD hS hA 0 rfl rfl rfl hl.1 rfl (Nat.le_of_ble_eq_true rfl) dX5_learn_233 ⟨(Nat.le_of_ble_eq_true rfl), (Nat.le_of_ble_eq_true rfl)⟩) hS (fun H locs hP hD hS => ?_)
                    have hP : va_P D vwCl (rfW cI b (rs_co x (upd (r_co x) at4 y5))) H := hP
                    have hD : va_D A (rfW cI b (rs_co x (upd (r_co x) at4 y5))) := hD
                    refine topI (y := r_ctx x j) (r_ctx_eq (by simp only [sh_co, sh_lc, sh_ln, sh_cl])) ?_
                    refine lv_icmp_eq (tgt := 249) hx hb dX5_learn_236 (by decide) (fun clc => ?_) (fun clc => ?_)
                    · replace clc : ((r_lc x) at4) = (r_ctx x j) := clc
                      refine lv_aload_n hx hb dX5_learn_249 rfl (lv_at hl 4 rfl) ?_
                      refine va_get (D := D) (ci := 5) (v := .ref (b 7)) (C := RX5) (T := TX5) (N := 22) hx hb hts (fun _ h => List.mem_cons_of_mem _ (List.mem_append_right _ h)) hown hK hP 0 rfl rfl 9 (by decide) (hts _ (List.mem_of_getElem? (i := 14) rfl)) (fun _ h9 => h9) rfl dX5_learn_250 ?_
                      refine lv_iload hx hb dX5_learn_253 (lv_at hl 1 rfl) ?_
                      refine lv_aload_n hx hb dX5_learn_255 rfl (lv_at hl 4 rfl) ?_
                      refine va_get (D := D) (ci := 5) (v := .int (nI (r_nd x))) (C := RX5) (T := TX5) (N := 22) hx hb hts (fun _ h => List.mem_cons_of_mem _ (List.mem_append_right _ h)) hown hK hP 0 rfl rfl 13 (by decide) (hts _ (List.mem_of_getElem? (i := 15) rfl)) (fun _ h9 => h9) rfl dX5_learn_256 ?_
                      refine istN hx hb hK hP hD hS 7 0 rfl rfl at4 (hat) ((Nat.le_of_ble_eq_true rfl)) dX5_learn_259 (fun H locs hP hD hS => ?_)
                      rw [rfW_ln] at hP hD
                      have hP : va_P D vwCl (rfW cI b (rs_ln (rs_co x (upd (r_co x) at4 y5)) (upd (r_ln x) at4 (nI (r_nd x))))) H := hP
                      have hD : va_D A (rfW cI b (rs_ln (rs_co x (upd (r_co x) at4 y5)) (upd (r_ln x) at4 (nI (r_nd x))))) := hD
                      refine lv_aload_n hx hb dX5_learn_260 rfl (lv_at hl 4 rfl) ?_
                      refine va_get (D := D) (ci := 5) (v := .ref (b 6)) (C := RX5) (T := TX5) (N := 22) hx hb hts (fun _ h => List.mem_cons_of_mem _ (List.mem_append_right _ h)) hown hK hP 0 rfl rfl 8 (by decide) (hts _ (List.mem_of_getElem? (i := 16) rfl)) (fun _ h9 => h9) rfl dX5_learn_261 ?_
                      refine lv_iload hx hb dX5_learn_264 (lv_at hl 1 rfl) ?_
                      refine lv_aload_n hx hb dX5_learn_266 rfl (lv_at hl 4 rfl) ?_
                      refine lv_iload_n hx hb dX5_learn_267 rfl (lv_at hl 2 rfl) ?_
                      refine kIa (rVa (As := [.int (nI j)]) (rest := [.int (nI at4), .ref (b 6)]) ⟨hx, hb, hml, hown, hts⟩ (c_X5_context l D cI cL cM _ b (rs_ln (rs_co x (upd (r_co x) at4 y5)) (upd (r_ln x) at4 (nI (r_nd x)))) j hj6 hod) (cwV 1 hts gX5_learn_X5_context rfl rfl rfl (by decide +kernel) ⟨(Nat.le_of_ble_eq_true rfl), (Nat.le_of_ble_eq_true rfl)⟩) hE hP hD hS hA 0 rfl rfl rfl hl.1 rfl (Nat.le_of_ble_eq_true rfl) dX5_learn_268 ⟨(Nat.le_of_ble_eq_true rfl), (Nat.le_of_ble_eq_true rfl)⟩) hS (fun H locs hP hD hS => ?_)
                      have hP : va_P D vwCl (rfW cI b (rs_ln (rs_co x (upd (r_co x) at4 y5)) (upd (r_ln x) at4 (nI (r_nd x))))) H := hP
                      have hD : va_D A (rfW cI b (rs_ln (rs_co x (upd (r_co x) at4 y5)) (upd (r_ln x) at4 (nI (r_nd x))))) := hD
                      refine topI (y := r_ctx x j) (r_ctx_eq (by simp only [sh_co, sh_lc, sh_ln, sh_cl])) ?_
                      refine istN hx hb hK hP hD hS 6 0 rfl rfl at4 (hat) ((Nat.le_of_ble_eq_true rfl)) dX5_learn_271 (fun H locs hP hD hS => ?_)
                      rw [rfW_lc] at hP hD
                      have hP : va_P D vwCl (rfW cI b (rs_ln (rs_lc (rs_co x (upd (r_co x) at4 y5)) (upd (r_lc x) at4 (r_ctx x j))) (upd (r_ln x) at4 (nI (r_nd x))))) H := hP
                      have hD : va_D A (rfW cI b (rs_ln (rs_lc (rs_co x (upd (r_co x) at4 y5)) (upd (r_lc x) at4 (r_ctx x j))) (upd (r_ln x) at4 (nI (r_nd x))))) := hD
                      refine lv_iinc (v := nI (j + 1)) (lv' := [(3, .int (nI (j + 1))), (5, .int p5), (4, .int (nI at4)), (2, .int (qual (r_mx u) z)), (0, .ref (b 0)), (1, .int z)]) hx hb dX5_learn_272 hl (k := 2) rfl (nI_1 _) (by decide) rfl (fun ls hl => ?_)
                      refine lv_goto (tgt := 128) hx hb dX5_learn_275 (by decide) ?_
                      subst hy5
                      subst hp5
                      subst hat4
                      exact ih_lp2 (j + 1) (rs_ln (rs_lc (rs_co x (upd (r_co x) (r_at x j) (((r_co x) (r_at x j)) - (((r_co x) (r_at x j)) >>> (((r_ra x) j) &&& 31))))) (upd (r_lc x) (r_at x j) (r_ctx x j))) (upd (r_ln x) (r_at x j) (nI (r_nd x)))) (by omega) (by simp only [sh_co, sh_lc, sh_ln, sh_cl]; exact hsx) (by show (rs_ln (rs_lc (rs_co x (upd (r_co x) (r_at x j) (((r_co x) (r_at x j)) - (((r_co x) (r_at x j)) >>> (((r_ra x) j) &&& 31))))) (upd (r_lc x) (r_at x j) (r_ctx x j))) (upd (r_ln x) (r_at x j) (nI (r_nd x)))) = r_ac1 z j (r_acl z j v); rw [← hx2]; unfold r_ac1 r_acB cUp cDn; (try rw [if_pos cz]); (try rw [if_neg cl0]); (try rw [if_pos cnd]); (try rw [if_pos clc]); try rfl) (by omega) _ _ hP hD hS ls (lv_sub hl [0, 3, 4, 5] rfl)
                    · replace clc : ¬ ((r_lc x) at4) = (r_ctx x j) := clc
                      refine lv_aload_n hx hb dX5_learn_239 rfl (lv_at hl 4 rfl) ?_
                      refine va_get (D := D) (ci := 5) (v := .ref (b 9)) (C := RX5) (T := TX5) (N := 22) hx hb hts (fun _ h => List.mem_cons_of_mem _ (List.mem_append_right _ h)) hown hK hP 0 rfl rfl 11 (by decide) (hts _ (List.mem_of_getElem? (i := 17) rfl)) (fun _ h9 => h9) rfl dX5_learn_240 ?_
                      refine lv_iload_n hx hb dX5_learn_243 rfl (lv_at hl 2 rfl) ?_
                      refine lv_dup2_11 hx hb dX5_learn_244 rfl rfl ?_
                      refine ildN hx hb hK hP 9 0 rfl rfl j (hj6) ((Nat.le_of_ble_eq_true rfl)) dX5_learn_245 ?_
                      refine lv_iconst (v := 1) hx hb dX5_learn_246 (by decide) ?_
                      refine lv_iadd hx hb dX5_learn_247 ?_
                      refine lv_topi (fun y6 hy6 => ?_)
                      refine istN hx hb hK hP hD hS 9 0 rfl rfl j (hj6) ((Nat.le_of_ble_eq_true rfl)) dX5_learn_248 (fun H locs hP hD hS => ?_)
                      rw [rfW_cl] at hP hD
                      have hP : va_P D vwCl (rfW cI b (rs_cl (rs_co x (upd (r_co x) at4 y5)) (upd (r_cl x) j y6))) H := hP
                      have hD : va_D A (rfW cI b (rs_cl (rs_co x (upd (r_co x) at4 y5)) (upd (r_cl x) j y6))) := hD
                      refine lv_aload_n hx hb dX5_learn_249 rfl (lv_at hl 4 rfl) ?_
                      refine va_get (D := D) (ci := 5) (v := .ref (b 7)) (C := RX5) (T := TX5) (N := 22) hx hb hts (fun _ h => List.mem_cons_of_mem _ (List.mem_append_right _ h)) hown hK hP 0 rfl rfl 9 (by decide) (hts _ (List.mem_of_getElem? (i := 14) rfl)) (fun _ h9 => h9) rfl dX5_learn_250 ?_
                      refine lv_iload hx hb dX5_learn_253 (lv_at hl 1 rfl) ?_
                      refine lv_aload_n hx hb dX5_learn_255 rfl (lv_at hl 4 rfl) ?_
                      refine va_get (D := D) (ci := 5) (v := .int (nI (r_nd x))) (C := RX5) (T := TX5) (N := 22) hx hb hts (fun _ h => List.mem_cons_of_mem _ (List.mem_append_right _ h)) hown hK hP 0 rfl rfl 13 (by decide) (hts _ (List.mem_of_getElem? (i := 15) rfl)) (fun _ h9 => h9) rfl dX5_learn_256 ?_
                      refine istN hx hb hK hP hD hS 7 0 rfl rfl at4 (hat) ((Nat.le_of_ble_eq_true rfl)) dX5_learn_259 (fun H locs hP hD hS => ?_)
                      rw [rfW_ln] at hP hD
                      have hP : va_P D vwCl (rfW cI b (rs_cl (rs_ln (rs_co x (upd (r_co x) at4 y5)) (upd (r_ln x) at4 (nI (r_nd x)))) (upd (r_cl x) j y6))) H := hP
                      have hD : va_D A (rfW cI b (rs_cl (rs_ln (rs_co x (upd (r_co x) at4 y5)) (upd (r_ln x) at4 (nI (r_nd x)))) (upd (r_cl x) j y6))) := hD
                      refine lv_aload_n hx hb dX5_learn_260 rfl (lv_at hl 4 rfl) ?_
                      refine va_get (D := D) (ci := 5) (v := .ref (b 6)) (C := RX5) (T := TX5) (N := 22) hx hb hts (fun _ h => List.mem_cons_of_mem _ (List.mem_append_right _ h)) hown hK hP 0 rfl rfl 8 (by decide) (hts _ (List.mem_of_getElem? (i := 16) rfl)) (fun _ h9 => h9) rfl dX5_learn_261 ?_
                      refine lv_iload hx hb dX5_learn_264 (lv_at hl 1 rfl) ?_
                      refine lv_aload_n hx hb dX5_learn_266 rfl (lv_at hl 4 rfl) ?_
                      refine lv_iload_n hx hb dX5_learn_267 rfl (lv_at hl 2 rfl) ?_
                      refine kIa (rVa (As := [.int (nI j)]) (rest := [.int (nI at4), .ref (b 6)]) ⟨hx, hb, hml, hown, hts⟩ (c_X5_context l D cI cL cM _ b (rs_cl (rs_ln (rs_co x (upd (r_co x) at4 y5)) (upd (r_ln x) at4 (nI (r_nd x)))) (upd (r_cl x) j y6)) j hj6 hod) (cwV 1 hts gX5_learn_X5_context rfl rfl rfl (by decide +kernel) ⟨(Nat.le_of_ble_eq_true rfl), (Nat.le_of_ble_eq_true rfl)⟩) hE hP hD hS hA 0 rfl rfl rfl hl.1 rfl (Nat.le_of_ble_eq_true rfl) dX5_learn_268 ⟨(Nat.le_of_ble_eq_true rfl), (Nat.le_of_ble_eq_true rfl)⟩) hS (fun H locs hP hD hS => ?_)
                      have hP : va_P D vwCl (rfW cI b (rs_cl (rs_ln (rs_co x (upd (r_co x) at4 y5)) (upd (r_ln x) at4 (nI (r_nd x)))) (upd (r_cl x) j y6))) H := hP
                      have hD : va_D A (rfW cI b (rs_cl (rs_ln (rs_co x (upd (r_co x) at4 y5)) (upd (r_ln x) at4 (nI (r_nd x)))) (upd (r_cl x) j y6))) := hD
                      refine topI (y := r_ctx x j) (r_ctx_eq (by simp only [sh_co, sh_lc, sh_ln, sh_cl])) ?_
                      refine istN hx hb hK hP hD hS 6 0 rfl rfl at4 (hat) ((Nat.le_of_ble_eq_true rfl)) dX5_learn_271 (fun H locs hP hD hS => ?_)
                      rw [rfW_lc] at hP hD
                      have hP : va_P D vwCl (rfW cI b (rs_cl (rs_ln (rs_lc (rs_co x (upd (r_co x) at4 y5)) (upd (r_lc x) at4 (r_ctx x j))) (upd (r_ln x) at4 (nI (r_nd x)))) (upd (r_cl x) j y6))) H := hP
                      have hD : va_D A (rfW cI b (rs_cl (rs_ln (rs_lc (rs_co x (upd (r_co x) at4 y5)) (upd (r_lc x) at4 (r_ctx x j))) (upd (r_ln x) at4 (nI (r_nd x)))) (upd (r_cl x) j y6))) := hD
                      refine lv_iinc (v := nI (j + 1)) (lv' := [(3, .int (nI (j + 1))), (5, .int p5), (4, .int (nI at4)), (2, .int (qual (r_mx u) z)), (0, .ref (b 0)), (1, .int z)]) hx hb dX5_learn_272 hl (k := 2) rfl (nI_1 _) (by decide) rfl (fun ls hl => ?_)
                      refine lv_goto (tgt := 128) hx hb dX5_learn_275 (by decide) ?_
                      subst hy6
                      subst hy5
                      subst hp5
                      subst hat4
                      exact ih_lp2 (j + 1) (rs_cl (rs_ln (rs_lc (rs_co x (upd (r_co x) (r_at x j) (((r_co x) (r_at x j)) - (((r_co x) (r_at x j)) >>> (((r_ra x) j) &&& 31))))) (upd (r_lc x) (r_at x j) (r_ctx x j))) (upd (r_ln x) (r_at x j) (nI (r_nd x)))) (upd (r_cl x) j (((r_cl x) j) + 1))) (by omega) (by simp only [sh_co, sh_lc, sh_ln, sh_cl]; exact hsx) (by show (rs_cl (rs_ln (rs_lc (rs_co x (upd (r_co x) (r_at x j) (((r_co x) (r_at x j)) - (((r_co x) (r_at x j)) >>> (((r_ra x) j) &&& 31))))) (upd (r_lc x) (r_at x j) (r_ctx x j))) (upd (r_ln x) (r_at x j) (nI (r_nd x)))) (upd (r_cl x) j (((r_cl x) j) + 1))) = r_ac1 z j (r_acl z j v); rw [← hx2]; unfold r_ac1 r_acB cUp cDn; (try rw [if_pos cz]); (try rw [if_neg cl0]); (try rw [if_pos cnd]); (try rw [if_neg clc]); try rfl) (by omega) _ _ hP hD hS ls (lv_sub hl [0, 3, 4, 5] rfl)
              · replace cz : ¬ z = (0 : Int32) := cz
                refine lv_iload hx hb dX5_learn_168 (lv_at hl 0 rfl) ?_
                refine lv_sipush (v := 4096) hx hb dX5_learn_170 (by decide) ?_
                refine lv_iload hx hb dX5_learn_173 (lv_at hl 0 rfl) ?_
                refine lv_isub hx hb dX5_learn_175 ?_
                refine lv_aload_n hx hb dX5_learn_176 rfl (lv_at hl 4 rfl) ?_
                refine va_get (D := D) (ci := 5) (v := .ref (b 2)) (C := RX5) (T := TX5) (N := 22) hx hb hts (fun _ h => List.mem_cons_of_mem _ (List.mem_append_right _ h)) hown hK hP 0 rfl rfl 3 (by decide) (hts _ (List.mem_of_getElem? (i := 13) rfl)) (fun _ h9 => h9) rfl dX5_learn_177 ?_
                refine lv_iload_n hx hb dX5_learn_180 rfl (lv_at hl 2 rfl) ?_
                refine ildN hx hb hK hP 2 0 rfl rfl j (hj6) ((Nat.le_of_ble_eq_true rfl)) dX5_learn_181 ?_
                refine lv_ishr hx hb dX5_learn_182 ?_
                refine lv_iadd hx hb dX5_learn_183 ?_
                refine lv_topi (fun y5 hy5 => ?_)
                refine lv_goto (tgt := 199) hx hb dX5_learn_184 (by decide) ?_
                refine istN hx hb hK hP hD hS 5 0 rfl rfl at4 (hat) ((Nat.le_of_ble_eq_true rfl)) dX5_learn_199 (fun H locs hP hD hS => ?_)
                rw [rfW_co] at hP hD
                have hP : va_P D vwCl (rfW cI b (rs_co x (upd (r_co x) at4 y5))) H := hP
                have hD : va_D A (rfW cI b (rs_co x (upd (r_co x) at4 y5))) := hD
                refine lv_aload_n hx hb dX5_learn_200 rfl (lv_at hl 4 rfl) ?_
                refine va_get (D := D) (ci := 5) (v := .ref (b 7)) (C := RX5) (T := TX5) (N := 22) hx hb hts (fun _ h => List.mem_cons_of_mem _ (List.mem_append_right _ h)) hown hK hP 0 rfl rfl 9 (by decide) (hts _ (List.mem_of_getElem? (i := 14) rfl)) (fun _ h9 => h9) rfl dX5_learn_201 ?_
                refine lv_iload hx hb dX5_learn_204 (lv_at hl 1 rfl) ?_
                refine ildN hx hb hK hP 7 0 rfl rfl at4 (hat) ((Nat.le_of_ble_eq_true rfl)) dX5_learn_206 ?_
                refine lv_if_eq (tgt := 249) hx hb dX5_learn_207 (by decide) (fun cl0 => ?_) (fun cl0 => ?_)
                · replace cl0 : ((r_ln x) at4) = (0 : Int32) := cl0
                  refine lv_aload_n hx hb dX5_learn_249 rfl (lv_at hl 4 rfl) ?_
                  refine va_get (D := D) (ci := 5) (v := .ref (b 7)) (C := RX5) (T := TX5) (N := 22) hx hb hts (fun _ h => List.mem_cons_of_mem _ (List.mem_append_right _ h)) hown hK hP 0 rfl rfl 9 (by decide) (hts _ (List.mem_of_getElem? (i := 14) rfl)) (fun _ h9 => h9) rfl dX5_learn_250 ?_
                  refine lv_iload hx hb dX5_learn_253 (lv_at hl 1 rfl) ?_
                  refine lv_aload_n hx hb dX5_learn_255 rfl (lv_at hl 4 rfl) ?_
                  refine va_get (D := D) (ci := 5) (v := .int (nI (r_nd x))) (C := RX5) (T := TX5) (N := 22) hx hb hts (fun _ h => List.mem_cons_of_mem _ (List.mem_append_right _ h)) hown hK hP 0 rfl rfl 13 (by decide) (hts _ (List.mem_of_getElem? (i := 15) rfl)) (fun _ h9 => h9) rfl dX5_learn_256 ?_
                  refine istN hx hb hK hP hD hS 7 0 rfl rfl at4 (hat) ((Nat.le_of_ble_eq_true rfl)) dX5_learn_259 (fun H locs hP hD hS => ?_)
                  rw [rfW_ln] at hP hD
                  have hP : va_P D vwCl (rfW cI b (rs_ln (rs_co x (upd (r_co x) at4 y5)) (upd (r_ln x) at4 (nI (r_nd x))))) H := hP
                  have hD : va_D A (rfW cI b (rs_ln (rs_co x (upd (r_co x) at4 y5)) (upd (r_ln x) at4 (nI (r_nd x))))) := hD
                  refine lv_aload_n hx hb dX5_learn_260 rfl (lv_at hl 4 rfl) ?_
                  refine va_get (D := D) (ci := 5) (v := .ref (b 6)) (C := RX5) (T := TX5) (N := 22) hx hb hts (fun _ h => List.mem_cons_of_mem _ (List.mem_append_right _ h)) hown hK hP 0 rfl rfl 8 (by decide) (hts _ (List.mem_of_getElem? (i := 16) rfl)) (fun _ h9 => h9) rfl dX5_learn_261 ?_
                  refine lv_iload hx hb dX5_learn_264 (lv_at hl 1 rfl) ?_
                  refine lv_aload_n hx hb dX5_learn_266 rfl (lv_at hl 4 rfl) ?_
                  refine lv_iload_n hx hb dX5_learn_267 rfl (lv_at hl 2 rfl) ?_
                  refine kIa (rVa (As := [.int (nI j)]) (rest := [.int (nI at4), .ref (b 6)]) ⟨hx, hb, hml, hown, hts⟩ (c_X5_context l D cI cL cM _ b (rs_ln (rs_co x (upd (r_co x) at4 y5)) (upd (r_ln x) at4 (nI (r_nd x)))) j hj6 hod) (cwV 1 hts gX5_learn_X5_context rfl rfl rfl (by decide +kernel) ⟨(Nat.le_of_ble_eq_true rfl), (Nat.le_of_ble_eq_true rfl)⟩) hE hP hD hS hA 0 rfl rfl rfl hl.1 rfl (Nat.le_of_ble_eq_true rfl) dX5_learn_268 ⟨(Nat.le_of_ble_eq_true rfl), (Nat.le_of_ble_eq_true rfl)⟩) hS (fun H locs hP hD hS => ?_)
                  have hP : va_P D vwCl (rfW cI b (rs_ln (rs_co x (upd (r_co x) at4 y5)) (upd (r_ln x) at4 (nI (r_nd x))))) H := hP
                  have hD : va_D A (rfW cI b (rs_ln (rs_co x (upd (r_co x) at4 y5)) (upd (r_ln x) at4 (nI (r_nd x))))) := hD
                  refine topI (y := r_ctx x j) (r_ctx_eq (by simp only [sh_co, sh_lc, sh_ln, sh_cl])) ?_
                  refine istN hx hb hK hP hD hS 6 0 rfl rfl at4 (hat) ((Nat.le_of_ble_eq_true rfl)) dX5_learn_271 (fun H locs hP hD hS => ?_)
                  rw [rfW_lc] at hP hD
                  have hP : va_P D vwCl (rfW cI b (rs_ln (rs_lc (rs_co x (upd (r_co x) at4 y5)) (upd (r_lc x) at4 (r_ctx x j))) (upd (r_ln x) at4 (nI (r_nd x))))) H := hP
                  have hD : va_D A (rfW cI b (rs_ln (rs_lc (rs_co x (upd (r_co x) at4 y5)) (upd (r_lc x) at4 (r_ctx x j))) (upd (r_ln x) at4 (nI (r_nd x))))) := hD
                  refine lv_iinc (v := nI (j + 1)) (lv' := [(3, .int (nI (j + 1))), (5, .int p5), (4, .int (nI at4)), (2, .int (qual (r_mx u) z)), (0, .ref (b 0)), (1, .int z)]) hx hb dX5_learn_272 hl (k := 2) rfl (nI_1 _) (by decide) rfl (fun ls hl => ?_)
                  refine lv_goto (tgt := 128) hx hb dX5_learn_275 (by decide) ?_
                  subst hy5
                  subst hp5
                  subst hat4
                  exact ih_lp2 (j + 1) (rs_ln (rs_lc (rs_co x (upd (r_co x) (r_at x j) (((r_co x) (r_at x j)) + ((4096 - ((r_co x) (r_at x j))) >>> (((r_ra x) j) &&& 31))))) (upd (r_lc x) (r_at x j) (r_ctx x j))) (upd (r_ln x) (r_at x j) (nI (r_nd x)))) (by omega) (by simp only [sh_co, sh_lc, sh_ln, sh_cl]; exact hsx) (by show (rs_ln (rs_lc (rs_co x (upd (r_co x) (r_at x j) (((r_co x) (r_at x j)) + ((4096 - ((r_co x) (r_at x j))) >>> (((r_ra x) j) &&& 31))))) (upd (r_lc x) (r_at x j) (r_ctx x j))) (upd (r_ln x) (r_at x j) (nI (r_nd x)))) = r_ac1 z j (r_acl z j v); rw [← hx2]; unfold r_ac1 r_acB cUp cDn; (try rw [if_neg cz]); (try rw [if_pos cl0]); try rfl) (by omega) _ _ hP hD hS ls (lv_sub hl [0, 3, 4, 5] rfl)
                · replace cl0 : ¬ ((r_ln x) at4) = (0 : Int32) := cl0
                  refine lv_aload_n hx hb dX5_learn_210 rfl (lv_at hl 4 rfl) ?_
                  refine va_get (D := D) (ci := 5) (v := .ref (b 7)) (C := RX5) (T := TX5) (N := 22) hx hb hts (fun _ h => List.mem_cons_of_mem _ (List.mem_append_right _ h)) hown hK hP 0 rfl rfl 9 (by decide) (hts _ (List.mem_of_getElem? (i := 14) rfl)) (fun _ h9 => h9) rfl dX5_learn_211 ?_
                  refine lv_iload hx hb dX5_learn_214 (lv_at hl 1 rfl) ?_
                  refine ildN hx hb hK hP 7 0 rfl rfl at4 (hat) ((Nat.le_of_ble_eq_true rfl)) dX5_learn_216 ?_
                  refine lv_aload_n hx hb dX5_learn_217 rfl (lv_at hl 4 rfl) ?_
                  refine va_get (D := D) (ci := 5) (v := .int (nI (r_nd x))) (C := RX5) (T := TX5) (N := 22) hx hb hts (fun _ h => List.mem_cons_of_mem _ (List.mem_append_right _ h)) hown hK hP 0 rfl rfl 13 (by decide) (hts _ (List.mem_of_getElem? (i := 15) rfl)) (fun _ h9 => h9) rfl dX5_learn_218 ?_
                  refine lv_icmp_ne (tgt := 239) hx hb dX5_learn_221 (by decide) (fun cnd => ?_) (fun cnd => ?_)
                  · replace cnd : ¬ ((r_ln x) at4) = (nI (r_nd x)) := cnd
                    refine lv_aload_n hx hb dX5_learn_239 rfl (lv_at hl 4 rfl) ?_
                    refine va_get (D := D) (ci := 5) (v := .ref (b 9)) (C := RX5) (T := TX5) (N := 22) hx hb hts (fun _ h => List.mem_cons_of_mem _ (List.mem_append_right _ h)) hown hK hP 0 rfl rfl 11 (by decide) (hts _ (List.mem_of_getElem? (i := 17) rfl)) (fun _ h9 => h9) rfl dX5_learn_240 ?_
                    refine lv_iload_n hx hb dX5_learn_243 rfl (lv_at hl 2 rfl) ?_
                    refine lv_dup2_11 hx hb dX5_learn_244 rfl rfl ?_
                    refine ildN hx hb hK hP 9 0 rfl rfl j (hj6) ((Nat.le_of_ble_eq_true rfl)) dX5_learn_245 ?_
                    refine lv_iconst (v := 1) hx hb dX5_learn_246 (by decide) ?_
                    refine lv_iadd hx hb dX5_learn_247 ?_
                    refine lv_topi (fun y6 hy6 => ?_)
                    refine istN hx hb hK hP hD hS 9 0 rfl rfl j (hj6) ((Nat.le_of_ble_eq_true rfl)) dX5_learn_248 (fun H locs hP hD hS => ?_)
                    rw [rfW_cl] at hP hD
                    have hP : va_P D vwCl (rfW cI b (rs_cl (rs_co x (upd (r_co x) at4 y5)) (upd (r_cl x) j y6))) H := hP
                    have hD : va_D A (rfW cI b (rs_cl (rs_co x (upd (r_co x) at4 y5)) (upd (r_cl x) j y6))) := hD
                    refine lv_aload_n hx hb dX5_learn_249 rfl (lv_at hl 4 rfl) ?_
                    refine va_get (D := D) (ci := 5) (v := .ref (b 7)) (C := RX5) (T := TX5) (N := 22) hx hb hts (fun _ h => List.mem_cons_of_mem _ (List.mem_append_right _ h)) hown hK hP 0 rfl rfl 9 (by decide) (hts _ (List.mem_of_getElem? (i := 14) rfl)) (fun _ h9 => h9) rfl dX5_learn_250 ?_
                    refine lv_iload hx hb dX5_learn_253 (lv_at hl 1 rfl) ?_
                    refine lv_aload_n hx hb dX5_learn_255 rfl (lv_at hl 4 rfl) ?_
                    refine va_get (D := D) (ci := 5) (v := .int (nI (r_nd x))) (C := RX5) (T := TX5) (N := 22) hx hb hts (fun _ h => List.mem_cons_of_mem _ (List.mem_append_right _ h)) hown hK hP 0 rfl rfl 13 (by decide) (hts _ (List.mem_of_getElem? (i := 15) rfl)) (fun _ h9 => h9) rfl dX5_learn_256 ?_
                    refine istN hx hb hK hP hD hS 7 0 rfl rfl at4 (hat) ((Nat.le_of_ble_eq_true rfl)) dX5_learn_259 (fun H locs hP hD hS => ?_)
                    rw [rfW_ln] at hP hD
                    have hP : va_P D vwCl (rfW cI b (rs_cl (rs_ln (rs_co x (upd (r_co x) at4 y5)) (upd (r_ln x) at4 (nI (r_nd x)))) (upd (r_cl x) j y6))) H := hP
                    have hD : va_D A (rfW cI b (rs_cl (rs_ln (rs_co x (upd (r_co x) at4 y5)) (upd (r_ln x) at4 (nI (r_nd x)))) (upd (r_cl x) j y6))) := hD
                    refine lv_aload_n hx hb dX5_learn_260 rfl (lv_at hl 4 rfl) ?_
                    refine va_get (D := D) (ci := 5) (v := .ref (b 6)) (C := RX5) (T := TX5) (N := 22) hx hb hts (fun _ h => List.mem_cons_of_mem _ (List.mem_append_right _ h)) hown hK hP 0 rfl rfl 8 (by decide) (hts _ (List.mem_of_getElem? (i := 16) rfl)) (fun _ h9 => h9) rfl dX5_learn_261 ?_
                    refine lv_iload hx hb dX5_learn_264 (lv_at hl 1 rfl) ?_
                    refine lv_aload_n hx hb dX5_learn_266 rfl (lv_at hl 4 rfl) ?_
                    refine lv_iload_n hx hb dX5_learn_267 rfl (lv_at hl 2 rfl) ?_
                    refine kIa (rVa (As := [.int (nI j)]) (rest := [.int (nI at4), .ref (b 6)]) ⟨hx, hb, hml, hown, hts⟩ (c_X5_context l D cI cL cM _ b (rs_cl (rs_ln (rs_co x (upd (r_co x) at4 y5)) (upd (r_ln x) at4 (nI (r_nd x)))) (upd (r_cl x) j y6)) j hj6 hod) (cwV 1 hts gX5_learn_X5_context rfl rfl rfl (by decide +kernel) ⟨(Nat.le_of_ble_eq_true rfl), (Nat.le_of_ble_eq_true rfl)⟩) hE hP hD hS hA 0 rfl rfl rfl hl.1 rfl (Nat.le_of_ble_eq_true rfl) dX5_learn_268 ⟨(Nat.le_of_ble_eq_true rfl), (Nat.le_of_ble_eq_true rfl)⟩) hS (fun H locs hP hD hS => ?_)
                    have hP : va_P D vwCl (rfW cI b (rs_cl (rs_ln (rs_co x (upd (r_co x) at4 y5)) (upd (r_ln x) at4 (nI (r_nd x)))) (upd (r_cl x) j y6))) H := hP
                    have hD : va_D A (rfW cI b (rs_cl (rs_ln (rs_co x (upd (r_co x) at4 y5)) (upd (r_ln x) at4 (nI (r_nd x)))) (upd (r_cl x) j y6))) := hD
                    refine topI (y := r_ctx x j) (r_ctx_eq (by simp only [sh_co, sh_lc, sh_ln, sh_cl])) ?_
                    refine istN hx hb hK hP hD hS 6 0 rfl rfl at4 (hat) ((Nat.le_of_ble_eq_true rfl)) dX5_learn_271 (fun H locs hP hD hS => ?_)
                    rw [rfW_lc] at hP hD
                    have hP : va_P D vwCl (rfW cI b (rs_cl (rs_ln (rs_lc (rs_co x (upd (r_co x) at4 y5)) (upd (r_lc x) at4 (r_ctx x j))) (upd (r_ln x) at4 (nI (r_nd x)))) (upd (r_cl x) j y6))) H := hP
                    have hD : va_D A (rfW cI b (rs_cl (rs_ln (rs_lc (rs_co x (upd (r_co x) at4 y5)) (upd (r_lc x) at4 (r_ctx x j))) (upd (r_ln x) at4 (nI (r_nd x)))) (upd (r_cl x) j y6))) := hD
                    refine lv_iinc (v := nI (j + 1)) (lv' := [(3, .int (nI (j + 1))), (5, .int p5), (4, .int (nI at4)), (2, .int (qual (r_mx u) z)), (0, .ref (b 0)), (1, .int z)]) hx hb dX5_learn_272 hl (k := 2) rfl (nI_1 _) (by decide) rfl (fun ls hl => ?_)
                    refine lv_goto (tgt := 128) hx hb dX5_learn_275 (by decide) ?_
                    subst hy6
                    subst hy5
                    subst hp5
                    subst hat4
                    exact ih_lp2 (j + 1) (rs_cl (rs_ln (rs_lc (rs_co x (upd (r_co x) (r_at x j) (((r_co x) (r_at x j)) + ((4096 - ((r_co x) (r_at x j))) >>> (((r_ra x) j) &&& 31))))) (upd (r_lc x) (r_at x j) (r_ctx x j))) (upd (r_ln x) (r_at x j) (nI (r_nd x)))) (upd (r_cl x) j (((r_cl x) j) + 1))) (by omega) (by simp only [sh_co, sh_lc, sh_ln, sh_cl]; exact hsx) (by show (rs_cl (rs_ln (rs_lc (rs_co x (upd (r_co x) (r_at x j) (((r_co x) (r_at x j)) + ((4096 - ((r_co x) (r_at x j))) >>> (((r_ra x) j) &&& 31))))) (upd (r_lc x) (r_at x j) (r_ctx x j))) (upd (r_ln x) (r_at x j) (nI (r_nd x)))) (upd (r_cl x) j (((r_cl x) j) + 1))) = r_ac1 z j (r_acl z j v); rw [← hx2]; unfold r_ac1 r_acB cUp cDn; (try rw [if_neg cz]); (try rw [if_neg cl0]); (try rw [if_neg cnd]); try rfl) (by omega) _ _ hP hD hS ls (lv_sub hl [0, 3, 4, 5] rfl)
                  · replace cnd : ((r_ln x) at4) = (nI (r_nd x)) := cnd
                    refine lv_aload_n hx hb dX5_learn_224 rfl (lv_at hl 4 rfl) ?_
                    refine va_get (D := D) (ci := 5) (v := .ref (b 6)) (C := RX5) (T := TX5) (N := 22) hx hb hts (fun _ h => List.mem_cons_of_mem _ (List.mem_append_right _ h)) hown hK hP 0 rfl rfl 8 (by decide) (hts _ (List.mem_of_getElem? (i := 16) rfl)) (fun _ h9 => h9) rfl dX5_learn_225 ?_
                    refine lv_iload hx hb dX5_learn_228 (lv_at hl 1 rfl) ?_
                    refine ildN hx hb hK hP 6 0 rfl rfl at4 (hat) ((Nat.le_of_ble_eq_true rfl)) dX5_learn_230 ?_
                    refine lv_aload_n hx hb dX5_learn_231 rfl (lv_at hl 4 rfl) ?_
                    refine lv_iload_n hx hb dX5_learn_232 rfl (lv_at hl 2 rfl) ?_
                    refine kIa (rVa (As := [.int (nI j)]) (rest := [.int ((r_lc x) at4)]) ⟨hx, hb, hml, hown, hts⟩ (c_X5_context l D cI cL cM _ b (rs_co x (upd (r_co x) at4 y5)) j hj6 hod) (cwV 1 hts gX5_learn_X5_context rfl rfl rfl (by decide +kernel) ⟨(Nat.le_of_ble_eq_true rfl), (Nat.le_of_ble_eq_true rfl)⟩) hE hP hD hS hA 0 rfl rfl rfl hl.1 rfl (Nat.le_of_ble_eq_true rfl) dX5_learn_233 ⟨(Nat.le_of_ble_eq_true rfl), (Nat.le_of_ble_eq_true rfl)⟩) hS (fun H locs hP hD hS => ?_)
                    have hP : va_P D vwCl (rfW cI b (rs_co x (upd (r_co x) at4 y5))) H := hP
                    have hD : va_D A (rfW cI b (rs_co x (upd (r_co x) at4 y5))) := hD
                    refine topI (y := r_ctx x j) (r_ctx_eq (by simp only [sh_co, sh_lc, sh_ln, sh_cl])) ?_
                    refine lv_icmp_eq (tgt := 249) hx hb dX5_learn_236 (by decide) (fun clc => ?_) (fun clc => ?_)
                    · replace clc : ((r_lc x) at4) = (r_ctx x j) := clc
                      refine lv_aload_n hx hb dX5_learn_249 rfl (lv_at hl 4 rfl) ?_
                      refine va_get (D := D) (ci := 5) (v := .ref (b 7)) (C := RX5) (T := TX5) (N := 22) hx hb hts (fun _ h => List.mem_cons_of_mem _ (List.mem_append_right _ h)) hown hK hP 0 rfl rfl 9 (by decide) (hts _ (List.mem_of_getElem? (i := 14) rfl)) (fun _ h9 => h9) rfl dX5_learn_250 ?_
                      refine lv_iload hx hb dX5_learn_253 (lv_at hl 1 rfl) ?_
                      refine lv_aload_n hx hb dX5_learn_255 rfl (lv_at hl 4 rfl) ?_
                      refine va_get (D := D) (ci := 5) (v := .int (nI (r_nd x))) (C := RX5) (T := TX5) (N := 22) hx hb hts (fun _ h => List.mem_cons_of_mem _ (List.mem_append_right _ h)) hown hK hP 0 rfl rfl 13 (by decide) (hts _ (List.mem_of_getElem? (i := 15) rfl)) (fun _ h9 => h9) rfl dX5_learn_256 ?_
                      refine istN hx hb hK hP hD hS 7 0 rfl rfl at4 (hat) ((Nat.le_of_ble_eq_true rfl)) dX5_learn_259 (fun H locs hP hD hS => ?_)
                      rw [rfW_ln] at hP hD
                      have hP : va_P D vwCl (rfW cI b (rs_ln (rs_co x (upd (r_co x) at4 y5)) (upd (r_ln x) at4 (nI (r_nd x))))) H := hP
                      have hD : va_D A (rfW cI b (rs_ln (rs_co x (upd (r_co x) at4 y5)) (upd (r_ln x) at4 (nI (r_nd x))))) := hD
                      refine lv_aload_n hx hb dX5_learn_260 rfl (lv_at hl 4 rfl) ?_
                      refine va_get (D := D) (ci := 5) (v := .ref (b 6)) (C := RX5) (T := TX5) (N := 22) hx hb hts (fun _ h => List.mem_cons_of_mem _ (List.mem_append_right _ h)) hown hK hP 0 rfl rfl 8 (by decide) (hts _ (List.mem_of_getElem? (i := 16) rfl)) (fun _ h9 => h9) rfl dX5_learn_261 ?_
                      refine lv_iload hx hb dX5_learn_264 (lv_at hl 1 rfl) ?_
                      refine lv_aload_n hx hb dX5_learn_266 rfl (lv_at hl 4 rfl) ?_
                      refine lv_iload_n hx hb dX5_learn_267 rfl (lv_at hl 2 rfl) ?_
                      refine kIa (rVa (As := [.int (nI j)]) (rest := [.int (nI at4), .ref (b 6)]) ⟨hx, hb, hml, hown, hts⟩ (c_X5_context l D cI cL cM _ b (rs_ln (rs_co x (upd (r_co x) at4 y5)) (upd (r_ln x) at4 (nI (r_nd x)))) j hj6 hod) (cwV 1 hts gX5_learn_X5_context rfl rfl rfl (by decide +kernel) ⟨(Nat.le_of_ble_eq_true rfl), (Nat.le_of_ble_eq_true rfl)⟩) hE hP hD hS hA 0 rfl rfl rfl hl.1 rfl (Nat.le_of_ble_eq_true rfl) dX5_learn_268 ⟨(Nat.le_of_ble_eq_true rfl), (Nat.le_of_ble_eq_true rfl)⟩) hS (fun H locs hP hD hS => ?_)
                      have hP : va_P D vwCl (rfW cI b (rs_ln (rs_co x (upd (r_co x) at4 y5)) (upd (r_ln x) at4 (nI (r_nd x))))) H := hP
                      have hD : va_D A (rfW cI b (rs_ln (rs_co x (upd (r_co x) at4 y5)) (upd (r_ln x) at4 (nI (r_nd x))))) := hD
                      refine topI (y := r_ctx x j) (r_ctx_eq (by simp only [sh_co, sh_lc, sh_ln, sh_cl])) ?_
                      refine istN hx hb hK hP hD hS 6 0 rfl rfl at4 (hat) ((Nat.le_of_ble_eq_true rfl)) dX5_learn_271 (fun H locs hP hD hS => ?_)
                      rw [rfW_lc] at hP hD
                      have hP : va_P D vwCl (rfW cI b (rs_ln (rs_lc (rs_co x (upd (r_co x) at4 y5)) (upd (r_lc x) at4 (r_ctx x j))) (upd (r_ln x) at4 (nI (r_nd x))))) H := hP
                      have hD : va_D A (rfW cI b (rs_ln (rs_lc (rs_co x (upd (r_co x) at4 y5)) (upd (r_lc x) at4 (r_ctx x j))) (upd (r_ln x) at4 (nI (r_nd x))))) := hD
                      refine lv_iinc (v := nI (j + 1)) (lv' := [(3, .int (nI (j + 1))), (5, .int p5), (4, .int (nI at4)), (2, .int (qual (r_mx u) z)), (0, .ref (b 0)), (1, .int z)]) hx hb dX5_learn_272 hl (k := 2) rfl (nI_1 _) (by decide) rfl (fun ls hl => ?_)
                      refine lv_goto (tgt := 128) hx hb dX5_learn_275 (by decide) ?_
                      subst hy5
                      subst hp5
                      subst hat4
                      exact ih_lp2 (j + 1) (rs_ln (rs_lc (rs_co x (upd (r_co x) (r_at x j) (((r_co x) (r_at x j)) + ((4096 - ((r_co x) (r_at x j))) >>> (((r_ra x) j) &&& 31))))) (upd (r_lc x) (r_at x j) (r_ctx x j))) (upd (r_ln x) (r_at x j) (nI (r_nd x)))) (by omega) (by simp only [sh_co, sh_lc, sh_ln, sh_cl]; exact hsx) (by show (rs_ln (rs_lc (rs_co x (upd (r_co x) (r_at x j) (((r_co x) (r_at x j)) + ((4096 - ((r_co x) (r_at x j))) >>> (((r_ra x) j) &&& 31))))) (upd (r_lc x) (r_at x j) (r_ctx x j))) (upd (r_ln x) (r_at x j) (nI (r_nd x)))) = r_ac1 z j (r_acl z j v); rw [← hx2]; unfold r_ac1 r_acB cUp cDn; (try rw [if_neg cz]); (try rw [if_neg cl0]); (try rw [if_pos cnd]); (try rw [if_pos clc]); try rfl) (by omega) _ _ hP hD hS ls (lv_sub hl [0, 3, 4, 5] rfl)
                    · replace clc : ¬ ((r_lc x) at4) = (r_ctx x j) := clc
                      refine lv_aload_n hx hb dX5_learn_239 rfl (lv_at hl 4 rfl) ?_
                      refine va_get (D := D) (ci := 5) (v := .ref (b 9)) (C := RX5) (T := TX5) (N := 22) hx hb hts (fun _ h => List.mem_cons_of_mem _ (List.mem_append_right _ h)) hown hK hP 0 rfl rfl 11 (by decide) (hts _ (List.mem_of_getElem? (i := 17) rfl)) (fun _ h9 => h9) rfl dX5_learn_240 ?_
                      refine lv_iload_n hx hb dX5_learn_243 rfl (lv_at hl 2 rfl) ?_
                      refine lv_dup2_11 hx hb dX5_learn_244 rfl rfl ?_
                      refine ildN hx hb hK hP 9 0 rfl rfl j (hj6) ((Nat.le_of_ble_eq_true rfl)) dX5_learn_245 ?_
                      refine lv_iconst (v := 1) hx hb dX5_learn_246 (by decide) ?_
                      refine lv_iadd hx hb dX5_learn_247 ?_
                      refine lv_topi (fun y6 hy6 => ?_)
                      refine istN hx hb hK hP hD hS 9 0 rfl rfl j (hj6) ((Nat.le_of_ble_eq_true rfl)) dX5_learn_248 (fun H locs hP hD hS => ?_)
                      rw [rfW_cl] at hP hD
                      have hP : va_P D vwCl (rfW cI b (rs_cl (rs_co x (upd (r_co x) at4 y5)) (upd (r_cl x) j y6))) H := hP
                      have hD : va_D A (rfW cI b (rs_cl (rs_co x (upd (r_co x) at4 y5)) (upd (r_cl x) j y6))) := hD
                      refine lv_aload_n hx hb dX5_learn_249 rfl (lv_at hl 4 rfl) ?_
                      refine va_get (D := D) (ci := 5) (v := .ref (b 7)) (C := RX5) (T := TX5) (N := 22) hx hb hts (fun _ h => List.mem_cons_of_mem _ (List.mem_append_right _ h)) hown hK hP 0 rfl rfl 9 (by decide) (hts _ (List.mem_of_getElem? (i := 14) rfl)) (fun _ h9 => h9) rfl dX5_learn_250 ?_
                      refine lv_iload hx hb dX5_learn_253 (lv_at hl 1 rfl) ?_
                      refine lv_aload_n hx hb dX5_learn_255 rfl (lv_at hl 4 rfl) ?_
                      refine va_get (D := D) (ci := 5) (v := .int (nI (r_nd x))) (C := RX5) (T := TX5) (N := 22) hx hb hts (fun _ h => List.mem_cons_of_mem _ (List.mem_append_right _ h)) hown hK hP 0 rfl rfl 13 (by decide) (hts _ (List.mem_of_getElem? (i := 15) rfl)) (fun _ h9 => h9) rfl dX5_learn_256 ?_
                      refine istN hx hb hK hP hD hS 7 0 rfl rfl at4 (hat) ((Nat.le_of_ble_eq_true rfl)) dX5_learn_259 (fun H locs hP hD hS => ?_)
                      rw [rfW_ln] at hP hD
                      have hP : va_P D vwCl (rfW cI b (rs_cl (rs_ln (rs_co x (upd (r_co x) at4 y5)) (upd (r_ln x) at4 (nI (r_nd x)))) (upd (r_cl x) j y6))) H := hP
                      have hD : va_D A (rfW cI b (rs_cl (rs_ln (rs_co x (upd (r_co x) at4 y5)) (upd (r_ln x) at4 (nI (r_nd x)))) (upd (r_cl x) j y6))) := hD
                      refine lv_aload_n hx hb dX5_learn_260 rfl (lv_at hl 4 rfl) ?_
                      refine va_get (D := D) (ci := 5) (v := .ref (b 6)) (C := RX5) (T := TX5) (N := 22) hx hb hts (fun _ h => List.mem_cons_of_mem _ (List.mem_append_right _ h)) hown hK hP 0 rfl rfl 8 (by decide) (hts _ (List.mem_of_getElem? (i := 16) rfl)) (fun _ h9 => h9) rfl dX5_learn_261 ?_
                      refine lv_iload hx hb dX5_learn_264 (lv_at hl 1 rfl) ?_
                      refine lv_aload_n hx hb dX5_learn_266 rfl (lv_at hl 4 rfl) ?_
                      refine lv_iload_n hx hb dX5_learn_267 rfl (lv_at hl 2 rfl) ?_
                      refine kIa (rVa (As := [.int (nI j)]) (rest := [.int (nI at4), .ref (b 6)]) ⟨hx, hb, hml, hown, hts⟩ (c_X5_context l D cI cL cM _ b (rs_cl (rs_ln (rs_co x (upd (r_co x) at4 y5)) (upd (r_ln x) at4 (nI (r_nd x)))) (upd (r_cl x) j y6)) j hj6 hod) (cwV 1 hts gX5_learn_X5_context rfl rfl rfl (by decide +kernel) ⟨(Nat.le_of_ble_eq_true rfl), (Nat.le_of_ble_eq_true rfl)⟩) hE hP hD hS hA 0 rfl rfl rfl hl.1 rfl (Nat.le_of_ble_eq_true rfl) dX5_learn_268 ⟨(Nat.le_of_ble_eq_true rfl), (Nat.le_of_ble_eq_true rfl)⟩) hS (fun H locs hP hD hS => ?_)
                      have hP : va_P D vwCl (rfW cI b (rs_cl (rs_ln (rs_co x (upd (r_co x) at4 y5)) (upd (r_ln x) at4 (nI (r_nd x)))) (upd (r_cl x) j y6))) H := hP
                      have hD : va_D A (rfW cI b (rs_cl (rs_ln (rs_co x (upd (r_co x) at4 y5)) (upd (r_ln x) at4 (nI (r_nd x)))) (upd (r_cl x) j y6))) := hD
                      refine topI (y := r_ctx x j) (r_ctx_eq (by simp only [sh_co, sh_lc, sh_ln, sh_cl])) ?_
                      refine istN hx hb hK hP hD hS 6 0 rfl rfl at4 (hat) ((Nat.le_of_ble_eq_true rfl)) dX5_learn_271 (fun H locs hP hD hS => ?_)
                      rw [rfW_lc] at hP hD
                      have hP : va_P D vwCl (rfW cI b (rs_cl (rs_ln (rs_lc (rs_co x (upd (r_co x) at4 y5)) (upd (r_lc x) at4 (r_ctx x j))) (upd (r_ln x) at4 (nI (r_nd x)))) (upd (r_cl x) j y6))) H := hP
                      have hD : va_D A (rfW cI b (rs_cl (rs_ln (rs_lc (rs_co x (upd (r_co x) at4 y5)) (upd (r_lc x) at4 (r_ctx x j))) (upd (r_ln x) at4 (nI (r_nd x)))) (upd (r_cl x) j y6))) := hD
                      refine lv_iinc (v := nI (j + 1)) (lv' := [(3, .int (nI (j + 1))), (5, .int p5), (4, .int (nI at4)), (2, .int (qual (r_mx u) z)), (0, .ref (b 0)), (1, .int z)]) hx hb dX5_learn_272 hl (k := 2) rfl (nI_1 _) (by decide) rfl (fun ls hl => ?_)
                      refine lv_goto (tgt := 128) hx hb dX5_learn_275 (by decide) ?_
                      subst hy6
                      subst hy5
                      subst hp5
                      subst hat4
                      exact ih_lp2 (j + 1) (rs_cl (rs_ln (rs_lc (rs_co x (upd (r_co x) (r_at x j) (((r_co x) (r_at x j)) + ((4096 - ((r_co x) (r_at x j))) >>> (((r_ra x) j) &&& 31))))) (upd (r_lc x) (r_at x j) (r_ctx x j))) (upd (r_ln x) (r_at x j) (nI (r_nd x)))) (upd (r_cl x) j (((r_cl x) j) + 1))) (by omega) (by simp only [sh_co, sh_lc, sh_ln, sh_cl]; exact hsx) (by show (rs_cl (rs_ln (rs_lc (rs_co x (upd (r_co x) (r_at x j) (((r_co x) (r_at x j)) + ((4096 - ((r_co x) (r_at x j))) >>> (((r_ra x) j) &&& 31))))) (upd (r_lc x) (r_at x j) (r_ctx x j))) (upd (r_ln x) (r_at x j) (nI (r_nd x)))) (upd (r_cl x) j (((r_cl x) j) + 1))) = r_ac1 z j (r_acl z j v); rw [← hx2]; unfold r_ac1 r_acB cUp cDn; (try rw [if_neg cz]); (try rw [if_neg cl0]); (try rw [if_pos cnd]); (try rw [if_neg clc]); try rfl) (by omega) _ _ hP hD hS ls (lv_sub hl [0, 3, 4, 5] rfl)
        exact lp2 _ 0 v (Nat.zero_le _) (hsh) (rfl) (Nat.lt_succ_self _) _ _ hP hD hS ls (lv_sub hl [0, 1, 2, 3] rfl)
      · replace cj : ¬ (nI (r_n v)) ≤ (nI j) := cj
        have hjn : j < r_n w1 := by have h8 := nge_N (by omega) (by omega) cj; omega
        have hj6 : j < 6 := by omega
        obtain ⟨hod, hlo, hix⟩ := hsj j (by omega)
        refine lv_aload_n hx hb dX5_learn_34 rfl (lv_at hl 2 rfl) ?_
        refine lv_iload_n hx hb dX5_learn_35 rfl (lv_at hl 0 rfl) ?_
        refine kIa (rVa (As := [.int (nI j)]) (rest := []) ⟨hx, hb, hml, hown, hts⟩ (c_X5_predictionOf l D cI cL cM _ b v j hj6 hod hlo hix) (cwV 1 hts gX5_learn_X5_predictionOf rfl rfl rfl (by decide +kernel) ⟨(Nat.le_of_ble_eq_true rfl), (Nat.le_of_ble_eq_true rfl)⟩) hE hP hD hS hA 0 rfl rfl rfl hl.1 rfl (Nat.le_of_ble_eq_true rfl) dX5_learn_36 ⟨(Nat.le_of_ble_eq_true rfl), (Nat.le_of_ble_eq_true rfl)⟩) hS (fun H locs hP hD hS => ?_)
        have hP : va_P D vwCl (rfW cI b v) H := hP
        have hD : va_D A (rfW cI b v) := hD
        refine lv_iload_n hx hb dX5_learn_39 rfl (lv_at hl 3 rfl) ?_
        refine kI (rS (As := [.int (r_g v j), .int z]) (rest := []) ⟨hx, hb, hml, hown, hts⟩ (c_X5_quality l D cI cL cM _ (r_g v j) z ) (va_cwS 2 hts gX5_learn_X5_quality rfl rfl rfl (by decide +kernel) ⟨(Nat.le_of_ble_eq_true rfl), (Nat.le_of_ble_eq_true rfl)⟩) hE hP hD [] rfl rfl rfl hl.1 rfl (Nat.le_of_ble_eq_true rfl) dX5_learn_40 ⟨(Nat.le_of_ble_eq_true rfl), (Nat.le_of_ble_eq_true rfl)⟩) hP hD hS hA (is := []) rfl rfl (fun H locs hP hD hS => ?_)
        rw [putW_nil] at hP hD
        have hP : va_P D vwCl (rfW cI b v) H := hP
        have hD : va_D A (rfW cI b v) := hD
        refine lv_istore (lv' := [(4, .int (qual (r_g v j) z)), (3, .int (nI j)), (2, .int (qual (r_mx u) z)), (0, .ref (b 0)), (1, .int z)]) hx hb dX5_learn_43 hl (by decide) rfl (fun ls hl => ?_)
        refine lv_bipush (v := 8) hx hb dX5_learn_45 (by decide) ?_
        refine lv_iload_n hx hb dX5_learn_47 rfl (lv_at hl 1 rfl) ?_
        refine lv_imul hx hb dX5_learn_48 ?_
        refine lv_aload_n hx hb dX5_learn_49 rfl (lv_at hl 3 rfl) ?_
        refine kIa (rVa (As := []) (rest := [.int (8 * (nI j))]) ⟨hx, hb, hml, hown, hts⟩ (c_X5_phase l D cI cL cM _ b v  hnd) (cwV 0 hts gX5_learn_X5_phase rfl rfl rfl (by decide +kernel) ⟨(Nat.le_of_ble_eq_true rfl), (Nat.le_of_ble_eq_true rfl)⟩) hE hP hD hS hA 0 rfl rfl rfl hl.1 rfl (Nat.le_of_ble_eq_true rfl) dX5_learn_50 ⟨(Nat.le_of_ble_eq_true rfl), (Nat.le_of_ble_eq_true rfl)⟩) hS (fun H locs hP hD hS => ?_)
        have hP : va_P D vwCl (rfW cI b v) H := hP
        have hD : va_D A (rfW cI b v) := hD
        obtain ⟨iw, hiw⟩ : ∃ y9 : Nat, y9 = 8 * j + phN (r_nd v) := ⟨_, rfl⟩
        have hiw8 : iw < 48 := by omega
        refine lv_iadd hx hb dX5_learn_53 ?_
        refine topI (y := nI iw) (by rw [hiw]; exact wixN _ _) ?_
        refine lv_istore (lv' := [(5, .int (nI iw)), (4, .int (qual (r_g v j) z)), (3, .int (nI j)), (2, .int (qual (r_mx u) z)), (0, .ref (b 0)), (1, .int z)]) hx hb dX5_learn_54 hl (by decide) rfl (fun ls hl => ?_)
        refine lv_aload_n hx hb dX5_learn_56 rfl (lv_at hl 4 rfl) ?_
        refine va_get (D := D) (ci := 5) (v := .ref (b 8)) (C := RX5) (T := TX5) (N := 22) hx hb hts (fun _ h => List.mem_cons_of_mem _ (List.mem_append_right _ h)) hown hK hP 0 rfl rfl 10 (by decide) (hts _ (List.mem_of_getElem? (i := 3) rfl)) (fun _ h9 => h9) rfl dX5_learn_57 ?_
        refine lv_iload hx hb dX5_learn_60 (lv_at hl 0 rfl) ?_
        refine ildN hx hb hK hP 8 0 rfl rfl iw (hiw8) ((Nat.le_of_ble_eq_true rfl)) dX5_learn_62 ?_
        refine lv_topi (fun w6 hw6 => ?_)
        refine lv_istore (lv' := [(6, .int w6), (5, .int (nI iw)), (4, .int (qual (r_g v j) z)), (3, .int (nI j)), (2, .int (qual (r_mx u) z)), (0, .ref (b 0)), (1, .int z)]) hx hb dX5_learn_63 hl (by decide) rfl (fun ls hl => ?_)
        refine lv_iload hx hb dX5_learn_65 (lv_at hl 2 rfl) ?_
        refine lv_iload_n hx hb dX5_learn_67 rfl (lv_at hl 4 rfl) ?_
        refine lv_icmp_le (tgt := 93) hx hb dX5_learn_68 (by decide) (fun ca => ?_) (fun ca => ?_)
        · replace ca : (qual (r_g v j) z) ≤ (qual (r_mx u) z) := ca
          refine lv_iload hx hb dX5_learn_93 (lv_at hl 2 rfl) ?_
          refine lv_iload_n hx hb dX5_learn_95 rfl (lv_at hl 4 rfl) ?_
          refine lv_icmp_ge (tgt := 120) hx hb dX5_learn_96 (by decide) (fun cb => ?_) (fun cb => ?_)
          · replace cb : (qual (r_mx u) z) ≤ (qual (r_g v j) z) := cb
            refine lv_iinc (v := nI (j + 1)) (lv' := [(3, .int (nI (j + 1))), (6, .int w6), (5, .int (nI iw)), (4, .int (qual (r_g v j) z)), (2, .int (qual (r_mx u) z)), (0, .ref (b 0)), (1, .int z)]) hx hb dX5_learn_120 hl (k := 3) rfl (nI_1 _) (by decide) rfl (fun ls hl => ?_)
            refine lv_goto (tgt := 26) hx hb dX5_learn_123 (by decide) ?_
            subst hw6
            subst hiw
            exact ih_lp1 (j + 1) v (by omega) (by first | (rw [sh_we]; exact hsh) | exact hsh) (by show v = r_aw1 z (qual (r_mx u) z) j (r_awl z (qual (r_mx u) z) j w1); rw [← hv]; unfold r_aw1 wIncR wDecR; (try rw [if_pos ca]); (try rw [if_pos cb]); try rfl) (by omega) _ _ hP hD hS ls (lv_sub hl [0, 4, 5, 6] rfl)
          · replace cb : ¬ (qual (r_mx u) z) ≤ (qual (r_g v j) z) := cb
            refine lv_aload_n hx hb dX5_learn_99 rfl (lv_at hl 5 rfl) ?_
            refine va_get (D := D) (ci := 5) (v := .ref (b 8)) (C := RX5) (T := TX5) (N := 22) hx hb hts (fun _ h => List.mem_cons_of_mem _ (List.mem_append_right _ h)) hown hK hP 0 rfl rfl 10 (by decide) (hts _ (List.mem_of_getElem? (i := 3) rfl)) (fun _ h9 => h9) rfl dX5_learn_100 ?_
            refine lv_iload hx hb dX5_learn_103 (lv_at hl 1 rfl) ?_
            refine lv_iconst (v := 1) hx hb dX5_learn_105 (by decide) ?_
            refine lv_iload hx hb dX5_learn_106 (lv_at hl 0 rfl) ?_
            refine lv_iload hx hb dX5_learn_108 (lv_at hl 0 rfl) ?_
            refine lv_bipush (v := 16) hx hb dX5_learn_110 (by decide) ?_
            refine lv_idiv hx hb dX5_learn_112 (by decide) ?_
            refine lv_isub hx hb dX5_learn_113 ?_
            refine lv_iconst (v := 1) hx hb dX5_learn_114 (by decide) ?_
            refine lv_isub hx hb dX5_learn_115 ?_
            refine va_mmax hx hb (hml.trans hl.1.symm) hown (hts _ (List.mem_of_getElem? (i := 9) rfl)) (hts _ (List.mem_of_getElem? (i := 10) rfl)) (hts _ (List.mem_of_getElem? (i := 7) rfl)) (hts _ (List.mem_of_getElem? (i := 11) rfl)) (Nat.le_of_ble_eq_true rfl) (Nat.le_of_ble_eq_true rfl) (Nat.le_of_ble_eq_true rfl) (Nat.le_of_ble_eq_true rfl) dX5_learn_116 ?_
            refine lv_topi (fun y8 hy8 => ?_)
            refine istN hx hb hK hP hD hS 8 0 rfl rfl iw (hiw8) ((Nat.le_of_ble_eq_true rfl)) dX5_learn_119 (fun H locs hP hD hS => ?_)
            rw [rfW_we] at hP hD
            have hP : va_P D vwCl (rfW cI b (rs_we v (upd (r_we v) iw y8))) H := hP
            have hD : va_D A (rfW cI b (rs_we v (upd (r_we v) iw y8))) := hD
            refine lv_iinc (v := nI (j + 1)) (lv' := [(3, .int (nI (j + 1))), (6, .int w6), (5, .int (nI iw)), (4, .int (qual (r_g v j) z)), (2, .int (qual (r_mx u) z)), (0, .ref (b 0)), (1, .int z)]) hx hb dX5_learn_120 hl (k := 3) rfl (nI_1 _) (by decide) rfl (fun ls hl => ?_)
            refine lv_goto (tgt := 26) hx hb dX5_learn_123 (by decide) ?_
            subst hy8
            subst hw6
            subst hiw
            exact ih_lp1 (j + 1) (rs_we v (upd (r_we v) (8 * j + phN (r_nd v)) (if (1 : Int32) < ((((r_we v) (8 * j + phN (r_nd v))) - (((r_we v) (8 * j + phN (r_nd v))) / 16)) - 1) then ((((r_we v) (8 * j + phN (r_nd v))) - (((r_we v) (8 * j + phN (r_nd v))) / 16)) - 1) else (1 : Int32)))) (by omega) (by first | (rw [sh_we]; exact hsh) | exact hsh) (by show (rs_we v (upd (r_we v) (8 * j + phN (r_nd v)) (if (1 : Int32) < ((((r_we v) (8 * j + phN (r_nd v))) - (((r_we v) (8 * j + phN (r_nd v))) / 16)) - 1) then ((((r_we v) (8 * j + phN (r_nd v))) - (((r_we v) (8 * j + phN (r_nd v))) / 16)) - 1) else (1 : Int32)))) = r_aw1 z (qual (r_mx u) z) j (r_awl z (qual (r_mx u) z) j w1); rw [← hv]; unfold r_aw1 wIncR wDecR; (try rw [if_pos ca]); (try rw [if_neg cb]); try rfl) (by omega) _ _ hP hD hS ls (lv_sub hl [0, 4, 5, 6] rfl)
        · replace ca : ¬ (qual (r_g v j) z) ≤ (qual (r_mx u) z) := ca
          refine lv_aload_n hx hb dX5_learn_71 rfl (lv_at hl 5 rfl) ?_
          refine va_get (D := D) (ci := 5) (v := .ref (b 8)) (C := RX5) (T := TX5) (N := 22) hx hb hts (fun _ h => List.mem_cons_of_mem _ (List.mem_append_right _ h)) hown hK hP 0 rfl rfl 10 (by decide) (hts _ (List.mem_of_getElem? (i := 3) rfl)) (fun _ h9 => h9) rfl dX5_learn_72 ?_
          refine lv_iload hx hb dX5_learn_75 (lv_at hl 1 rfl) ?_
          refine lv_ldc hx hb hown (hts _ (List.mem_of_getElem? (i := 4) rfl)) dX5_learn_77 ?_
          refine lv_iload hx hb dX5_learn_79 (lv_at hl 0 rfl) ?_
          refine lv_iload hx hb dX5_learn_81 (lv_at hl 0 rfl) ?_
          refine lv_bipush (v := 16) hx hb dX5_learn_83 (by decide) ?_
          refine lv_idiv hx hb dX5_learn_85 (by decide) ?_
          refine lv_iadd hx hb dX5_learn_86 ?_
          refine lv_iconst (v := 1) hx hb dX5_learn_87 (by decide) ?_
          refine lv_iadd hx hb dX5_learn_88 ?_
          refine va_mmin hx hb (hml.trans hl.1.symm) hown (hts _ (List.mem_of_getElem? (i := 5) rfl)) (hts _ (List.mem_of_getElem? (i := 6) rfl)) (hts _ (List.mem_of_getElem? (i := 7) rfl)) (hts _ (List.mem_of_getElem? (i := 8) rfl)) (Nat.le_of_ble_eq_true rfl) (Nat.le_of_ble_eq_true rfl) (Nat.le_of_ble_eq_true rfl) (Nat.le_of_ble_eq_true rfl) dX5_learn_89 ?_
          refine lv_topi (fun y8 hy8 => ?_)
          refine istN hx hb hK hP hD hS 8 0 rfl rfl iw (hiw8) ((Nat.le_of_ble_eq_true rfl)) dX5_learn_92 (fun H locs hP hD hS => ?_)
          rw [rfW_we] at hP hD
          have hP : va_P D vwCl (rfW cI b (rs_we v (upd (r_we v) iw y8))) H := hP
          have hD : va_D A (rfW cI b (rs_we v (upd (r_we v) iw y8))) := hD
          refine lv_iload hx hb dX5_learn_93 (lv_at hl 2 rfl) ?_
          refine lv_iload_n hx hb dX5_learn_95 rfl (lv_at hl 4 rfl) ?_
          refine lv_icmp_ge (tgt := 120) hx hb dX5_learn_96 (by decide) (fun cb => ?_) (fun cb => absurd (le_of_nle ca) cb)
          refine lv_iinc (v := nI (j + 1)) (lv' := [(3, .int (nI (j + 1))), (6, .int w6), (5, .int (nI iw)), (4, .int (qual (r_g v j) z)), (2, .int (qual (r_mx u) z)), (0, .ref (b 0)), (1, .int z)]) hx hb dX5_learn_120 hl (k := 3) rfl (nI_1 _) (by decide) rfl (fun ls hl => ?_)
          refine lv_goto (tgt := 26) hx hb dX5_learn_123 (by decide) ?_
          subst hy8
          subst hw6
          subst hiw
          exact ih_lp1 (j + 1) (rs_we v (upd (r_we v) (8 * j + phN (r_nd v)) (if ((((r_we v) (8 * j + phN (r_nd v))) + (((r_we v) (8 * j + phN (r_nd v))) / 16)) + 1) < (60000 : Int32) then ((((r_we v) (8 * j + phN (r_nd v))) + (((r_we v) (8 * j + phN (r_nd v))) / 16)) + 1) else (60000 : Int32)))) (by omega) (by first | (rw [sh_we]; exact hsh) | exact hsh) (by show (rs_we v (upd (r_we v) (8 * j + phN (r_nd v)) (if ((((r_we v) (8 * j + phN (r_nd v))) + (((r_we v) (8 * j + phN (r_nd v))) / 16)) + 1) < (60000 : Int32) then ((((r_we v) (8 * j + phN (r_nd v))) + (((r_we v) (8 * j + phN (r_nd v))) / 16)) + 1) else (60000 : Int32)))) = r_aw1 z (qual (r_mx u) z) j (r_awl z (qual (r_mx u) z) j w1); rw [← hv]; unfold r_aw1 wIncR wDecR; (try rw [if_neg ca]); try rfl) (by omega) _ _ hP hD hS ls (lv_sub hl [0, 4, 5, 6] rfl)
  exact lp1 _ 0 w1 (Nat.zero_le _) (rfl) (rfl) (Nat.lt_succ_self _) _ _ hP hD hS ls (lv_sub hl [0, 1, 2, 3] rfl)
