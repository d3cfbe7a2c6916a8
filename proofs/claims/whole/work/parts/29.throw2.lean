/-! ===== what a throw needs, kept and moved ===== -/
theorem nw_cast {a b : String} {s U : State} (hW : s.WarmedH U.vm) (h : va_Nw (.castable a b) s) : va_Nw (.castable a b) U := va_tabs rfl (rfl : (s.setVm U.vm).vm = U.vm) (by rw [Cond.castable_setVm hW.alike]; exact h)
theorem xW_warm {s U : State} (hW : s.WarmedH U.vm) (h : ∀ w ∈ xW, va_Nw w s) : ∀ w ∈ xW, va_Nw w U := by
  have g : ∀ w, w ∈ xW → va_Nw w s := h
  unfold xW at g ⊢
  intro w hw
  have hs := g w hw
  simp only [List.mem_cons, List.not_mem_nil, or_false] at hw
  rcases hw with rfl | rfl | rfl | rfl | rfl | rfl
  · exact va_Nw.warmD hW hs
  · exact va_Nw.warmD hW hs
  · exact va_Nw.warmD hW hs
  · exact nw_cast hW hs
  · exact nw_cast hW hs
  · exact nw_cast hW hs
theorem evX_at {D : va_G} {T : List (ClassId × FieldType)} {A B : Nat → Prop} {sa : Nat → Nat} {s U : State} {H : Heap} {locs : List Loc} (hE : evX D T A sa s) (hS : va_S A s.heap H locs) (hAB : ∀ q, B q → A q) (hU : U.heap = H) (hW : s.WarmedH U.vm) : evX D T B sa U := by
  refine ⟨ev_warm hW hE.1, ?_, ?_, fun q hq => vk_R.warm hW (hE.2.2.2.1 q hq), xW_warm hW hE.2.2.2.2⟩
  · rw [hU]
    exact ((hE.2.1.kept hS.2.1).moved hW.alike).narrow hAB
  · rw [hU]
    exact ((hE.2.2.1.kept hS.2.1).moved hW.alike).narrow hAB
theorem evX_same {D : va_G} {T : List (ClassId × FieldType)} {A : Nat → Prop} {sa : Nat → Nat} {s U : State} (hv : s.vm = U.vm) (hh : U.heap = s.heap) (hE : evX D T A sa s) : evX D T A sa U := by
  have ha : s.vm.Alike U.vm := by rw [← hv]; exact Vm.Alike.refl _
  refine ⟨ev_same hv hE.1, ?_, ?_, fun q hq => vk_R.same hv.symm (hE.2.2.2.1 q hq), fun w hw => va_Nw.same (xW_tab w hw) hv (hE.2.2.2.2 w hw)⟩
  · rw [hh]
    exact hE.2.1.moved ha
  · rw [hh]
    exact hE.2.2.1.moved ha
theorem hoX_blind {D : va_G} {T : List (ClassId × FieldType)} {A : Nat → Prop} {sa : Nat → Nat} {ws : va_W} {av : List Value} : FrameBlind (va_Pc av (hoX D T A sa ws)) := fun a U g mk q => ⟨q.1, q.2.1, evX_same (s := U) (U := U.calling g mk a) rfl rfl q.2.2.1, q.2.2.2.1, q.2.2.2.2⟩
theorem hoX_sub {D : va_G} {T : List (ClassId × FieldType)} {A : Nat → Prop} {sa : Nat → Nat} {ws wc : va_W} {s U : State} {H : Heap} {locs : List Loc} {is : List Nat} (hE : evX D T A sa s) (hP : va_P D vwCl ws H) (hD : va_D A ws) (hS : va_S A s.heap H locs) (hA : ∀ q, s.heap.size ≤ q → A q) (hn : va_nd is = true) (hC : is.map (fun i => ws[i]?) = wc.map some) (hU : U.heap = H) (hW : s.WarmedH U.vm) : hoX D T (va_A wc H.size) sa wc U :=
  ⟨by rw [hU]; exact sub_P hP hC, evX_at hE hS (va_free hD hS hA is hC) hU hW, sub_D hD hn hC, fun q h => Or.inr (by rw [hU] at h; exact h)⟩
theorem hoX_all {D : va_G} {T : List (ClassId × FieldType)} {A : Nat → Prop} {sa : Nat → Nat} {ws : va_W} {s U : State} {H : Heap} {locs : List Loc} (hE : evX D T A sa s) (hP : va_P D vwCl ws H) (hD : va_D A ws) (hS : va_S A s.heap H locs) (hA : ∀ q, s.heap.size ≤ q → A q) (hU : U.heap = H) (hW : s.WarmedH U.vm) : hoX D T A sa ws U :=
  ⟨by rw [hU]; exact hP, evX_at hE hS (fun _ h => h) hU hW, hD, fun q h => hA q (Nat.le_trans hS.1 (by rw [hU] at h; exact h))⟩
