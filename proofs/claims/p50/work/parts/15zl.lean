theorem zi_0 : ∀ w ∈ u_ws RX0 TX0 4, w ∈ lw_tbl := by decide +kernel
theorem zi_1 : ∀ w ∈ u_ws RX1 TX1 16, w ∈ lw_tbl := by decide +kernel
theorem zi_2 : ∀ w ∈ u_ws RX2 TX2 5, w ∈ lw_tbl := by decide +kernel
theorem zi_3 : ∀ w ∈ u_ws RX3 TX3 6, w ∈ lw_tbl := by decide +kernel
theorem zi_4 : ∀ w ∈ u_ws RX4 TX4 2, w ∈ lw_tbl := by decide +kernel
theorem zi_5 : ∀ w ∈ u_ws RX5 TX5 7, w ∈ lw_tbl := by decide +kernel
theorem zi_6 : ∀ w ∈ u_ws RX6 TX6 16, w ∈ lw_tbl := by decide +kernel
set_option maxHeartbeats 4000000 in
theorem z_known {s : State} {args : Array Value} (hts : ∀ w ∈ lw_tbl, w.before args s = true) : ∃ D : va_G, ∀ (c : Nat) (q : vw_C), vwCl[c]? = some q → u_Kn s q.1 q.2.1 q.2.2 (D.1 c) (D.2 c) := by
  obtain ⟨d0, i0, h0⟩ := u_known (C := RX0) (T := TX0) (N := 4) (n := 4) hts zi_0 (hts (.instantiable RX0 4) (by decide +kernel))
  obtain ⟨d1, i1, h1⟩ := u_known (C := RX1) (T := TX1) (N := 16) (n := 16) hts zi_1 (hts (.instantiable RX1 16) (by decide +kernel))
  obtain ⟨d2, i2, h2⟩ := u_known (C := RX2) (T := TX2) (N := 5) (n := 5) hts zi_2 (hts (.instantiable RX2 5) (by decide +kernel))
  obtain ⟨d3, i3, h3⟩ := u_known (C := RX3) (T := TX3) (N := 6) (n := 6) hts zi_3 (hts (.instantiable RX3 6) (by decide +kernel))
  obtain ⟨d4, i4, h4⟩ := u_known (C := RX4) (T := TX4) (N := 2) (n := 2) hts zi_4 (hts (.instantiable RX4 2) (by decide +kernel))
  obtain ⟨d5, i5, h5⟩ := u_known (C := RX5) (T := TX5) (N := 7) (n := 7) hts zi_5 (hts (.instantiable RX5 7) (by decide +kernel))
  obtain ⟨d6, i6, h6⟩ := u_known (C := RX6) (T := TX6) (N := 16) (n := 16) hts zi_6 (hts (.instantiable RX6 16) (by decide +kernel))
  refine ⟨(fun k => match k with | 0 => d0 | 1 => d1 | 2 => d2 | 3 => d3 | 4 => d4 | 5 => d5 | _ => d6, fun k => match k with | 0 => i0 | 1 => i1 | 2 => i2 | 3 => i3 | 4 => i4 | 5 => i5 | _ => i6), ?_⟩
  intro k q hq
  match k, hq with
  | 0, hq => cases hq; exact h0
  | 1, hq => cases hq; exact h1
  | 2, hq => cases hq; exact h2
  | 3, hq => cases hq; exact h3
  | 4, hq => cases hq; exact h4
  | 5, hq => cases hq; exact h5
  | 6, hq => cases hq; exact h6
  | k + 7, hq => simp [vwCl] at hq
