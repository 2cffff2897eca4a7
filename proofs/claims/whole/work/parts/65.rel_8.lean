/-! at the start -/
theorem fai_at : ∀ n j, j < n → fai n j = if j / 16 = j % 16 then 0 else -1
  | 0, j, h => absurd h (Nat.not_lt_zero j)
  | n + 1, j, h => by
    by_cases e : j = n
    · subst e; exact updL_at _ _ _
    · show vp_updL _ _ _ j = _
      rw [updL_ne _ _ e]; exact fai_at n j (by omega)
theorem gid_at : ∀ n j, j < n → gid n j = j
  | 0, j, h => absurd h (Nat.not_lt_zero j)
  | n + 1, j, h => by
    by_cases e : j = n
    · subst e; exact updN_at _ _ _
    · show updN _ _ _ j = _
      rw [updN_ne _ _ e]; exact gid_at n j (by omega)
theorem RELL_0 : RELL 0 0 0 0 0 0 (fun _ => 0) (fun _ => 0) (fun _ => 0) (fun _ => 0) (fun _ => 0) (fun _ => 0) (fun _ => 0) (gid 24) (fun _ => 0) (fun _ => 0) (fun _ => 0) (fun _ => 0) (fun _ => 0) (fai 256) (fun _ => 0) (fun _ => 0) (fll (fun _ => 0) (-1) 256) (fun _ => 0) (fll (fun _ => 0) (-1) 24) (fll (fun _ => 0) (-1) 24) (fun _ => 0) (fun _ => 0) (fun _ => 0) 0 1 := by
  have hf : ∀ i j, i < 16 → j < 16 → fai 256 (16 * i + j) = if i = j then 0 else -1 := fun i j hi hj => by
    rw [fai_at 256 _ (by omega), show (16 * i + j) / 16 = i by omega, show (16 * i + j) % 16 = j by omega]
  refine ⟨⟨by omega, fun j hj => absurd hj (Nat.not_lt_zero j), fun j hj => absurd hj (Nat.not_lt_zero j), fun i j hi => absurd hi (Nat.not_lt_zero i), ?_⟩, ⟨by omega, fun k hk => absurd hk (Nat.not_lt_zero k), fun e he => Or.inl ⟨fll_at _ _ 256 e he, rfl⟩, fun k gp hk => absurd hk (Nat.not_lt_zero k), fun _ _ => rfl⟩, ⟨0, 1, rfl, rfl, by omega, by omega, by omega⟩, fun r hr => Or.inl ⟨rfl, rfl⟩, ⟨fun w hw => rfl, fun w _ hw => fll_at _ _ 24 w hw⟩, ⟨by omega, fun k hk => by rw [gid_at 24 k hk]; exact hk, fun k hk => absurd hk (Nat.not_lt_zero k), fun x y _ _ => b_0 y, fun x y hx hy => by rw [gid_at 24 x hx, gid_at 24 y hy]; exact Iff.rfl⟩, ⟨by omega, fun k _ => Nat.zero_le 2, fun v w _ _ => ⟨b_0 w, fun h => absurd rfl h⟩⟩, by omega⟩
  refine ⟨fun i hi => by rw [hf i i hi hi, if_pos rfl], fun i j hi hj => by rw [hf i j hi hj, hf j i hj hi]; simp only [eq_comm], fun i j hi hj hne _ => by rw [hf i j hi hj, if_neg hne], fun i j hi hj => ?_, fun i j k hi hj hk h1 h2 => ?_, Nat.le_refl 0⟩
  · rw [hf i j hi hj]
    by_cases e : i = j
    · rw [if_pos e]; exact Or.inr ⟨0, by omega, rfl⟩
    · rw [if_neg e]; exact Or.inl rfl
  · rw [hf i j hi hj] at h1
    rw [hf j k hj hk] at h2
    rw [hf i k hi hk]
    by_cases e : i = j
    · by_cases e2 : j = k
      · rw [if_pos (e.trans e2)]; decide
      · rw [if_neg e2] at h2; exact absurd rfl h2
    · rw [if_neg e] at h1; exact absurd rfl h1
