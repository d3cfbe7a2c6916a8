/-! ===== behind the call of a method that throws ===== -/
theorem map_at {is : List Nat} {ws w : va_W} (hs : is.map (fun i => ws[i]?) = w.map some) {k i : Nat} (hi : is[k]? = some i) : ∃ q, w[k]? = some q ∧ ws[i]? = some q := by
  have h1 : (w.map some)[k]? = some (ws[i]?) := by rw [← hs, List.getElem?_map, hi]; rfl
  rw [List.getElem?_map] at h1
  cases hw : w[k]? with
  | none => rw [hw] at h1; cases h1
  | some q => rw [hw] at h1; exact ⟨q, rfl, (Option.some.inj h1).symm⟩
/-- the callee's cells are as they were, and so is all else -/
theorem lift0 {D : va_G} {A : Nat → Prop} {ws wc : va_W} {H H1 : Heap} {is : List Nat} (hP : va_P D vwCl ws H) (hD : va_D A ws) (hC : is.map (fun i => ws[i]?) = wc.map some)
    (hk : ∀ q : Nat, q < H.size → ¬ va_A wc H.size q → H1[q]? = H[q]?) (hP1 : va_P D vwCl wc H1) : va_P D vwCl ws H1 := fun k q hq => by
  by_cases hm : k ∈ is
  · obtain ⟨j, hj⟩ := List.getElem?_of_mem hm
    obtain ⟨q', h1, h2⟩ := map_at hC hj
    rw [hq] at h2
    cases h2
    exact hP1 j q h1
  · have hl := (hP k q hq).lt
    refine (hP k q hq).kept (hk q.1 hl (fun h => ?_))
    rcases h with ⟨k2, e, h⟩ | h
    · obtain ⟨j, h3, h4⟩ := at_map hC k2 (q.1, e) h
      have hij := hD.1 k j q (q.1, e) hq h4 rfl
      subst hij
      exact hm (List.mem_of_getElem? h3)
    · omega
section THR2
variable {p : Program} {l : Launch} {e : Env} {R : Room} {s : State} {m : MethodId} {args : Array Value} {below : List Frame} {meth : Method} {c : Code} {H : Heap} {locs : List Loc} {cells slots : Nat} {Q : State → Prop}
variable {pc : Nat} {rest st0 : List Value} {ls : Array Slot} {D : va_G} {A : Nat → Prop} {ws wc w1 : va_W} {H0 : Heap} {OK : Prop} {TH : String → Prop}
theorem kVx {a : Array Value} {is : List Nat} (hr : vx_Run p l e R s m args below meth c H locs cells slots 1 6 (F0 m pc ls st0) rest (va_Qv (fun (_ : Unit) => OK) (fun _ t => hq D (va_A wc H.size) w1 t) (va_A wc H.size) a) (vx_X (fun (_ : Unit) => True) (fun E _ t => TH E ∧ hq D (va_A wc H.size) wc t) (va_A wc H.size)) (va_A wc H.size))
    (hP : va_P D vwCl ws H) (hD : va_D A ws) (hS : va_S A H0 H locs) (hA : ∀ q, H0.size ≤ q → A q) (hC : is.map (fun i => ws[i]?) = wc.map some) (hf : w1.map Prod.fst = wc.map Prod.fst)
    (kx : ∀ (E : String) (ce : Cell) (q9 : Addr) (H : Heap) (locs : List Loc), TH E → va_P D vwCl ws H → va_S A H0 H locs → H[q9]? = some ce → ce.vm = .none → s.vm.findClass E = some ce.cls → vx_W p l e R s m args below meth c H locs (cells + 1) (slots + 6) Q (F0 m pc ls rest) q9)
    (kk : ∀ (H : Heap) (locs : List Loc), OK → va_P D vwCl (putW ws is w1) H → va_D A (putW ws is w1) → va_S A H0 H locs → W p l e R s m args below meth c H locs (cells + 1) (slots + 6) Q (F0 m (pc + 3) ls rest)) : W p l e R s m args below meth c H locs cells slots Q (F0 m pc ls st0) :=
  vx_callv hr hS (fun q _ h => free_A hD hS hA hC q h) (free_A hD hS hA hC) (fun q _ h => free_A hD hS hA hC q h)
    (fun E ce q9 _ t H1 locs1 ht _ _ hB _ hk hS1 h1 h2 h3 => kx E ce q9 H1 locs1 hB.1 (lift0 hP hD hC hk (by rw [← ht]; exact hB.2.1)) hS1 h1 h2 h3)
    (fun _ t H1 locs1 ht _ hp hB _ hk hS1 => by
      obtain ⟨g1, g2⟩ := lift1 hP hD hC hf hk (by rw [← ht]; exact hB.1)
      exact kk H1 locs1 hp g1 g2 hS1)
theorem kIx {r : Int32} {a : Array Value} {is : List Nat} (hr : vx_Run p l e R s m args below meth c H locs cells slots 1 6 (F0 m pc ls st0) rest (va_Qi (fun x (_ : Unit) => x = r ∧ OK) (fun _ t => hq D (va_A wc H.size) w1 t) (va_A wc H.size) a) (vx_X (fun (_ : Unit) => True) (fun E _ t => TH E ∧ hq D (va_A wc H.size) wc t) (va_A wc H.size)) (va_A wc H.size))
    (hP : va_P D vwCl ws H) (hD : va_D A ws) (hS : va_S A H0 H locs) (hA : ∀ q, H0.size ≤ q → A q) (hC : is.map (fun i => ws[i]?) = wc.map some) (hf : w1.map Prod.fst = wc.map Prod.fst)
    (kx : ∀ (E : String) (ce : Cell) (q9 : Addr) (H : Heap) (locs : List Loc), TH E → va_P D vwCl ws H → va_S A H0 H locs → H[q9]? = some ce → ce.vm = .none → s.vm.findClass E = some ce.cls → vx_W p l e R s m args below meth c H locs (cells + 1) (slots + 6) Q (F0 m pc ls rest) q9)
    (kk : ∀ (H : Heap) (locs : List Loc), OK → va_P D vwCl (putW ws is w1) H → va_D A (putW ws is w1) → va_S A H0 H locs → W p l e R s m args below meth c H locs (cells + 1) (slots + 6) Q (F0 m (pc + 3) ls (.int r :: rest))) : W p l e R s m args below meth c H locs cells slots Q (F0 m pc ls st0) :=
  vx_calli hr hS (fun q _ h => free_A hD hS hA hC q h) (free_A hD hS hA hC) (fun q _ h => free_A hD hS hA hC q h)
    (fun E ce q9 _ t H1 locs1 ht _ _ hB _ hk hS1 h1 h2 h3 => kx E ce q9 H1 locs1 hB.1 (lift0 hP hD hC hk (by rw [← ht]; exact hB.2.1)) hS1 h1 h2 h3)
    (fun r1 _ t H1 locs1 ht _ hp hB _ hk hS1 => by
      obtain ⟨rfl, hok⟩ := hp
      obtain ⟨g1, g2⟩ := lift1 hP hD hC hf hk (by rw [← ht]; exact hB.1)
      exact kk H1 locs1 hok g1 g2 hS1)
end THR2
