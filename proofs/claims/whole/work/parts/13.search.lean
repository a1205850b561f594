/-! A PRUNED SEARCH IS THE SEARCH OVER ALL: sets as masks, the first choice decided first, first with it -/
/-- the leaves below a set: k choices are still open, the next one is n - k -/
def lf (n : Nat) : Nat → Nat → List Nat
  | 0, P => [P]
  | k + 1, P => lf n k (P ||| 2 ^ (n - (k + 1))) ++ lf n k P
theorem lf_len (n : Nat) : ∀ k P, (lf n k P).length = 2 ^ k
  | 0, _ => rfl
  | k + 1, P => by rw [lf, List.length_append, lf_len n k, lf_len n k, Nat.pow_succ]; omega
theorem fold_same {β : Type} {step : β → Nat → β} {z : β} : ∀ {l : List Nat}, (∀ m ∈ l, step z m = z) → l.foldl step z = z
  | [], _ => rfl
  | m :: l, h => by
    rw [List.foldl_cons, h m List.mem_cons_self]
    exact fold_same (fun q hq => h q (List.mem_cons_of_mem _ hq))
def sr {β : Type} (n N : Nat) (hop : Nat → Nat → β → Bool) (badW badO : Nat → Nat → Bool) (step : β → Nat → β) : Nat → Nat → Nat → β → β
  | 0, b, P, z => if N ≤ b ∨ hop 0 P z = true then z else step z P
  | k + 1, b, P, z => if N ≤ b ∨ hop (k + 1) P z = true then z else
      if badO (k + 1) P = true then (if badW (k + 1) P = true then z else sr n N hop badW badO step k b (P ||| 2 ^ (n - (k + 1))) z)
      else sr n N hop badW badO step k (b + 2 ^ k) P (if badW (k + 1) P = true then z else sr n N hop badW badO step k b (P ||| 2 ^ (n - (k + 1))) z)
theorem fold_inv {β : Type} {step : β → Nat → β} {J : β → Prop} (jS : ∀ z m, J z → J (step z m)) : ∀ (l : List Nat) (z : β), J z → J (l.foldl step z)
  | [], _, h => h
  | m :: l, z, h => fold_inv jS l (step z m) (jS z m h)
theorem sr_fold {β : Type} {n N : Nat} {hop : Nat → Nat → β → Bool} {badW badO : Nat → Nat → Bool} {step : β → Nat → β} (I : Nat → Nat → Prop) (J : β → Prop) (jS : ∀ z m, J z → J (step z m))
    (hW : ∀ k P, I (k + 1) P → badW (k + 1) P = true → ∀ m ∈ lf n k (P ||| 2 ^ (n - (k + 1))), ∀ z, step z m = z) (iW : ∀ k P, I (k + 1) P → badW (k + 1) P = false → I k (P ||| 2 ^ (n - (k + 1))))
    (hO : ∀ k P, I (k + 1) P → badO (k + 1) P = true → ∀ m ∈ lf n k P, ∀ z, step z m = z) (iO : ∀ k P, I (k + 1) P → badO (k + 1) P = false → I k P)
    (hH : ∀ k P z, I k P → J z → hop k P z = true → ∀ m ∈ lf n k P, step z m = z) :
    ∀ k b P z, I k P → J z → sr n N hop badW badO step k b P z = ((lf n k P).take (N - b)).foldl step z := by
  intro k
  induction k with
  | zero =>
    intro b P z hI hJ
    unfold sr
    by_cases hb : N ≤ b
    · rw [if_pos (Or.inl hb), Nat.sub_eq_zero_of_le hb]
      rfl
    · by_cases hh : hop 0 P z = true
      · rw [if_pos (Or.inr hh)]
        exact (fold_same (fun m hm => hH 0 P z hI hJ hh m (List.mem_of_mem_take hm))).symm
      · rw [if_neg (by rintro (q | q) <;> contradiction)]
        obtain ⟨j, hj⟩ : ∃ j, N - b = j + 1 := ⟨N - b - 1, by omega⟩
        rw [hj, lf]
        simp
  | succ k ih =>
    intro b P z hI hJ
    unfold sr
    by_cases hb : N ≤ b
    · rw [if_pos (Or.inl hb), Nat.sub_eq_zero_of_le hb]
      rfl
    · by_cases hh : hop (k + 1) P z = true
      · rw [if_pos (Or.inr hh)]
        exact (fold_same (fun m hm => hH (k + 1) P z hI hJ hh m (List.mem_of_mem_take hm))).symm
      · rw [if_neg (by rintro (q | q) <;> contradiction)]
        have eW : (if badW (k + 1) P = true then z else sr n N hop badW badO step k b (P ||| 2 ^ (n - (k + 1))) z) = ((lf n k (P ||| 2 ^ (n - (k + 1)))).take (N - b)).foldl step z := by
          by_cases hw : badW (k + 1) P = true
          · rw [if_pos hw]
            exact (fold_same (fun m hm => hW k P hI hw m (List.mem_of_mem_take hm) z)).symm
          · rw [if_neg hw]
            exact ih b _ z (iW k P hI (by simpa using hw)) hJ
        rw [eW, lf, List.take_append, List.foldl_append, lf_len]
        generalize hz1 : ((lf n k (P ||| 2 ^ (n - (k + 1)))).take (N - b)).foldl step z = z1
        have hJ1 : J z1 := by rw [← hz1]; exact fold_inv jS _ _ hJ
        rw [show N - b - 2 ^ k = N - (b + 2 ^ k) by omega]
        by_cases ho : badO (k + 1) P = true
        · rw [if_pos ho]
          exact (fold_same (fun m hm => hO k P hI ho m (List.mem_of_mem_take hm) z1)).symm
        · rw [if_neg ho]
          exact ih (b + 2 ^ k) P z1 (iO k P hI (by simpa using ho)) hJ1
