theorem z_tyeq {s : State} {D : va_G} {cl : List vw_C} {tys : List (ClassId × FieldType)} (hK : va_K D cl tys s) (i j : Nat) {a b : ClassId} {ty : FieldType} (hi : tys[i]? = some (a, ty)) (hj : tys[j]? = some (b, ty)) : a = b := by
  have h1 : va_RA s a ty := (hK.2 i _ hi).2
  have h2 : va_RA s b ty := (hK.2 j _ hj).2
  cases ty with
  | object C =>
    obtain ⟨_, _, _, _, _, e1⟩ := h1
    obtain ⟨_, _, _, _, _, e2⟩ := h2
    exact Option.some.inj (e1.symm.trans e2)
  | _ => exact Option.some.inj (Eq.trans (Eq.symm h1) h2)
/-- a loop that writes no cell -/
theorem z_loopR (P : Nat → Array Slot → Prop) (Wp : Nat → Array Slot → Prop) (n : Nat) (step : ∀ k, k < n → (∀ ls, P (k + 1) ls → Wp (k + 1) ls) → ∀ ls, P k ls → Wp k ls) (exit : ∀ ls, P n ls → Wp n ls) : ∀ (j k : Nat), k + j = n → ∀ ls, P k ls → Wp k ls
  | 0, k, h, ls, hp => by
    have e : k = n := by omega
    subst e
    exact exit ls hp
  | j + 1, k, h, ls, hp => step k (by omega) (fun ls hp => z_loopR P Wp n step exit j (k + 1) (by omega) ls hp) ls hp

