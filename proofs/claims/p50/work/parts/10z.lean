section ZCATCH
variable {p : Program} {l : Launch} {e : Env} {R : Room} {s : State} {m : MethodId} {args : Array Value} {below : List Frame} {meth : Method} {c : Code} {H : Heap} {locs : List Loc} {cells slots : Nat} {Q : State → Prop}
/-- caught by the row at place k of the method's table; the rows ahead don't cover, or are of other classes -/
theorem z_catch {pc : Nat} {ls : Array Slot} {rest : List Value} {own name : String} {E : String} {ce : Cell} {q : Addr} {hh : List (Nat × Nat × Nat × Nat)} {x : ExceptionTableEntry} (hown : s.vm.findClass own = some m.cls) (hxe : c.exceptionTable.toList = tableOf hh) (k : Nat) (hk : (tableOf hh)[k]? = some x) (cts : List (Nat × String))
    (hall : ((tableOf hh).take k).all (fun z => !covers z pc || cts.any (fun q => q.1 == z.catchType)) = true) (hc : ∀ q ∈ cts, q.1 ≠ 0 ∧ (Cond.classLink own q.1 q.2).before args s = true ∧ va_Nc E q.2 s) (hx : covers x pc = true) (h0 : x.catchType ≠ 0)
    (hlink : (Cond.classLink own x.catchType name).before args s = true) (hcast : (Cond.castable E name).before args s = true) (hcell : H[q]? = some ce) (hv : ce.vm = .none) (hcl : s.vm.findClass E = some ce.cls)
    (kk : W p l e R s m args below meth c H locs cells slots Q (F0 m x.handlerPc ls [.ref q])) : vx_W p l e R s m args below meth c H locs cells slots Q (F0 m pc ls rest) q := by
  refine vx_catch hown ((tableOf hh).take k) x ((tableOf hh).drop (k + 1)) ?_ (fun z hz => ?_) hx h0 hlink hcast hcell hv hcl kk
  · rw [hxe]
    obtain ⟨h, e⟩ := List.getElem?_eq_some_iff.mp hk
    subst e
    rw [← List.drop_eq_getElem_cons h]
    exact (List.take_append_drop k _).symm
  · have h1 := List.all_eq_true.mp hall z hz
    simp only [Bool.or_eq_true, Bool.not_eq_true', List.any_eq_true, beq_iff_eq] at h1
    rcases h1 with h1 | ⟨q, hq, e⟩
    · exact Or.inl h1
    · obtain ⟨h2, h3, h4⟩ := hc q hq
      rw [e] at h2 h3
      exact Or.inr ⟨h2, q.2, h3, h4⟩
end ZCATCH

