/-! the start -/
theorem vk {σ : Mm} (h : VOK σ) (o k : Nat) (v : Int32) (ho : o < 322) (hk : k ∈ vL o) (hv : v0 o k = v) : σ o k = v := by rw [h o ho k hk, hv]
theorem start_ok (σ : Mm) (h : VOK σ) : Inv σ := by
  have g : ∀ i, i < 10 → σ 299 i = nI 0 := fun i hi => vk h 299 i _ (by decide) ((by decide : ∀ i, i < 10 → i ∈ vL 299) i hi) ((by decide : ∀ i, i < 10 → v0 299 i = nI 0) i hi)
  have gl : ∀ t, t < 10 → σ 299 (5410 + t) = m1I := fun t ht => vk h 299 (5410 + t) _ (by decide) ((by decide : ∀ t, t < 10 → 5410 + t ∈ vL 299) t ht) ((by decide : ∀ t, t < 10 → v0 299 (5410 + t) = m1I) t ht)
  have z : ∀ i, i < 10 → ix (σ 299 i) = 0 := fun i hi => by rw [g i hi]; exact ixN (by omega)
  have c : ∀ i m, i < 10 → m < 2147483648 → cntG (σ 299) i m := fun i m hi hm => cntG_of (g i hi) (Nat.zero_le _) hm
  have e1 : ∀ i, i = 8 ∨ i = 9 ∨ i = 10 ∨ i = 11 ∨ i = 12 → σ 1 i = nI 0 := fun i hi => by
    rcases hi with rfl | rfl | rfl | rfl | rfl <;> exact vk h 1 _ _ (by decide) (by decide) (by decide)
  refine ⟨⟨⟨c 0 _ (by omega) (by omega), c 1 _ (by omega) (by omega)⟩, ⟨c 2 _ (by omega) (by omega), c 9 _ (by omega) (by omega)⟩, ⟨c 3 _ (by omega) (by omega), fun t ht => ?_⟩, ⟨c 4 _ (by omega) (by omega), fun t ht => ?_⟩, ⟨c 5 _ (by omega) (by omega), fun t ht => ?_⟩, ⟨c 6 _ (by omega) (by omega), fun t ht => ?_⟩, ⟨c 7 _ (by omega) (by omega), fun t ht => ?_⟩, c 8 _ (by omega) (by omega), fun t ht => Or.inl (gl t ht)⟩, ⟨⟨?_, ?_⟩, ⟨?_, ?_, fun i hi => ?_⟩, ⟨?_, fun i hi => ?_⟩, ⟨?_, fun i hi => ?_, fun i hi => ⟨?_, ?_⟩⟩, ⟨?_, fun i hi => ?_⟩, ⟨?_, fun i hi => ?_⟩, ⟨?_, fun i hi => ?_, fun j hj => ?_⟩, ⟨?_, fun i hi => ?_⟩, fun t ht => ?_⟩, ⟨false, ?_, ?_, fun q => (by cases q)⟩, ⟨0, by omega, ?_, ?_, fun i hi => by omega⟩, fun r hr => ⟨?_, ?_, 0, by omega, ?_, ?_, fun i hi => by omega⟩, fun j hj => ⟨0, by omega, ?_, ?_, fun q => by omega, fun q => by omega, fun q => by omega⟩, ⟨0, by omega, ?_, ?_, fun i hi => by omega⟩, fun k hk => ?_, fun k hk => ?_⟩
  · rw [z 3 (by omega)] at ht; omega
  · rw [z 4 (by omega)] at ht; omega
  · rw [z 5 (by omega)] at ht; omega
  · rw [z 6 (by omega)] at ht; omega
  · rw [z 7 (by omega)] at ht; omega
  · rw [e1 8 (by omega), g 0 (by omega)]
  · rw [e1 9 (by omega), g 1 (by omega)]
  · rw [g 2 (by omega)]; exact vk h 2 3 _ (by decide) (by decide) (by decide)
  · rw [g 9 (by omega)]; exact vk h 2 4 _ (by decide) (by decide) (by decide)
  · rw [z 9 (by omega)] at hi; omega
  · rw [g 3 (by omega)]; exact vk h 6 4 _ (by decide) (by decide) (by decide)
  · rw [z 3 (by omega)] at hi; omega
  · rw [e1 10 (by omega), g 4 (by omega)]
  · rw [z 4 (by omega)] at hi; omega
  · have q : σ (1 + 28 + i) 6 = nI 0 := vk h _ 6 _ (by omega) ((by decide : ∀ i, i < 24 → 6 ∈ vL (1 + 28 + i)) i hi) ((by decide : ∀ i, i < 24 → v0 (1 + 28 + i) 6 = nI 0) i hi)
    rw [q]; exact zB_0
  · have q : σ (1 + 28 + i) 12 = nI 0 := vk h _ 12 _ (by omega) ((by decide : ∀ i, i < 24 → 12 ∈ vL (1 + 28 + i)) i hi) ((by decide : ∀ i, i < 24 → v0 (1 + 28 + i) 12 = nI 0) i hi)
    rw [q]; exact zB_0
  · rw [e1 11 (by omega), g 5 (by omega)]
  · rw [z 5 (by omega)] at hi; omega
  · rw [g 6 (by omega)]; exact vk h 13 8 _ (by decide) (by decide) (by decide)
  · rw [z 6 (by omega)] at hi; omega
  · rw [g 7 (by omega)]; exact vk h 22 5 _ (by decide) (by decide) (by decide)
  · rw [z 7 (by omega)] at hi; omega
  · have q : σ (1 + 21) 4 = nI 0 := vk h 22 4 _ (by decide) (by decide) (by decide)
    rw [q, z 7 (by omega), decide_eq_false (by omega), Bool.false_and]
    exact b_zero j
  · rw [e1 12 (by omega), g 8 (by omega)]
  · rw [z 8 (by omega)] at hi; omega
  · rw [gl t ht, nn_m]
    exact vk h 28 t _ (by decide) ((by decide : ∀ t, t < 10 → t ∈ vL 28) t ht) ((by decide : ∀ t, t < 10 → v0 28 t = -1000000005) t ht)
  · exact vk h 0 8 _ (by decide) (by decide) (by decide)
  · exact vk h 298 3 _ (by decide) (by decide) (by decide)
  · exact vk h 256 5 _ (by decide) (by decide) (by decide)
  · exact vk h 298 10 _ (by decide) (by decide) (by decide)
  · have q : σ 312 r = m1I := vk h 312 r _ (by decide) ((by decide : ∀ r, r < 4 → r ∈ vL 312) r hr) ((by decide : ∀ r, r < 4 → v0 312 r = m1I) r hr)
    rw [q]
    exact vk h (266 + 2 * r) 1 _ (by omega) ((by decide : ∀ r, r < 4 → 1 ∈ vL (266 + 2 * r)) r hr) ((by decide : ∀ r, r < 4 → v0 (266 + 2 * r) 1 = m1I) r hr)
  · exact Or.inl (vk h 312 r _ (by decide) ((by decide : ∀ r, r < 4 → r ∈ vL 312) r hr) ((by decide : ∀ r, r < 4 → v0 312 r = m1I) r hr))
  · exact vk h 313 r _ (by decide) ((by decide : ∀ r, r < 4 → r ∈ vL 313) r hr) ((by decide : ∀ r, r < 4 → v0 313 r = nI 0) r hr)
  · exact vk h (266 + 2 * r) 2 _ (by omega) ((by decide : ∀ r, r < 4 → 2 ∈ vL (266 + 2 * r)) r hr) ((by decide : ∀ r, r < 4 → v0 (266 + 2 * r) 2 = nI 0) r hr)
  · exact vk h (274 + 4 * j) 2 _ (by omega) ((by decide : ∀ r, r < 6 → 2 ∈ vL (274 + 4 * r)) j hj) ((by decide : ∀ r, r < 6 → v0 (274 + 4 * r) 2 = nI 0) j hj)
  · exact vk h 316 j _ (by decide) ((by decide : ∀ r, r < 6 → r ∈ vL 316) j hj) ((by decide : ∀ r, r < 6 → v0 316 r = nI 0) j hj)
  · exact vk h 0 9 _ (by decide) (by decide) (by decide)
  · exact vk h 298 44 _ (by decide) (by decide) (by decide)
  · exact vk h 306 k _ (by decide) ((by decide : ∀ k, k < 68 → k ∈ vL 306) k hk) rfl
  · exact vk h 307 k _ (by decide) ((by decide : ∀ k, k < 18 → k ∈ vL 307) k hk) rfl
