def f_law (xs : Nat → Int32) (L : Nat) : Option Int32 := cv f_Box_init (fun w1 => cv f_Mod_init (fun w2 => f_law_28 xs L 514 (0 : Int32) (w1, w2, (fun _ => (0 : Int64)), (fun _ => (0 : UInt64)))))
theorem str_of {s : State} {A : Array Value} {own : String} {k : Nat} (h : (Cond.exactly (.string own k) "java/lang/String").before A s = true) : ∃ a, (Term.string own k).eval A s none [] s = some (.ref a) := by
  cases hv : (Term.string own k).eval A s none [] s with
  | none => simp [Cond.before, Cond.holds, Cond.value, hv] at h
  | some w => cases w <;> first | exact ⟨_, rfl⟩ | (cases hc : s.vm.findClass "java/lang/String" <;> simp [Cond.before, Cond.holds, Cond.value, hv, hc] at h)
theorem st_1 : ∀ q ∈ STRS, Cond.stringRef R_Box q.1 q.2 ∈ lw_tbl := by decide +kernel
theorem st_2 : ∀ q ∈ STRS, Cond.exactly (.string R_Box q.1) "java/lang/String" ∈ flatC (Jvm.Cond.and given_1 narrow_1) := by decide +kernel
theorem st_3 : ∀ q ∈ NCL, Cond.not (.castable q.1 q.2) ∈ flatC (Jvm.Cond.and given_1 narrow_1) := by decide +kernel
theorem st_4 : Cond.isRef (.static Bundle.tN "UNASSIGNED_STACK" Bundle.steD) ∈ flatC (Jvm.Cond.and given_1 narrow_1) := by decide +kernel
theorem st_5 : Cond.isRef (.static Bundle.tN "SUPPRESSED_SENTINEL" Bundle.listD) ∈ flatC (Jvm.Cond.and given_1 narrow_1) := by decide +kernel
theorem st_6 : Cond.laysStatic Bundle.tN "UNASSIGNED_STACK" Bundle.steD ∈ lw_tbl := by decide +kernel
theorem st_7 : Cond.laysStatic Bundle.tN "SUPPRESSED_SENTINEL" Bundle.listD ∈ lw_tbl := by decide +kernel
theorem st_8 : Cond.initialized Bundle.tN ∈ lw_tbl := by decide +kernel
theorem st_i : Cond.arrayClass .int ∈ lw_tbl := by decide +kernel
theorem st_l : Cond.arrayClass .long ∈ lw_tbl := by decide +kernel
theorem st_d : Cond.arrayClass .double ∈ lw_tbl := by decide +kernel
theorem ar_of {s : State} {A : Array Value} {ty : FieldType} (hty : ∀ C, ty ≠ .object C) (h : (Cond.arrayClass ty).before A s = true) : ∃ cA : ClassId, ArrOfT s cA ty ∧ va_RA s cA ty := by
  obtain ⟨cA, kA, comp, h1, h2, h3⟩ := Cond.arrayClass_spec h
  refine ⟨cA, fun n z => ⟨fun k h => (by cases h), kA, h2, comp, h3⟩, ?_⟩
  cases ty with
  | object C => exact absurd rfl (hty C)
  | _ => exact h1
def sa_of (s : State) (k : Nat) : Nat := match (Term.string R_Box k).eval #[] s none [] s with
  | some (.ref a) => a
  | _ => 0
theorem sa_of_eq {s : State} {k a : Nat} (h : (Term.string R_Box k).eval #[] s none [] s = some (.ref a)) : sa_of s k = a := by unfold sa_of; rw [h]
theorem amb_of {s : State} {b : Nat} (A : Nat → Prop) (hA : ∀ a : Nat, a < s.heap.size → ¬ A a) (hts : ∀ w ∈ lw_tbl, w.before #[Value.ref b] s = true) (hgv : (Jvm.Cond.and given_1 narrow_1).before #[Value.ref b] s = true) : AM (sa_of s) A s ∧ NCs s := by
  have hf := flat_of_before _ hgv
  refine ⟨⟨fun w hw => va_Nw.of ?_ (hts w (NW_in w hw)), fun w hw => va_Nw.of (XW_ok w hw).1 (hts w (XW_in w hw)), ?_, ?_, ?_⟩, fun q hq => va_Nc.of (hf _ (st_3 q hq))⟩
  · rcases NW_kind w hw with ⟨a, i, b9, n, d, h9, rfl⟩ | ⟨a, i, x, h9, rfl⟩ <;> rfl
  · intro q hq
    obtain ⟨a, ha⟩ := str_of (hf _ (st_2 q hq))
    have ha' : (Term.string R_Box q.1).eval #[] s none [] s = some (.ref a) := ha
    rw [sa_of_eq ha']
    exact vk_R.of (A := #[Value.ref b]) (hts _ (st_1 q hq)) ha
  · exact vx_Zqof (hts _ st_6) (hts _ st_8) (hf _ st_4) hA
  · exact vx_Zqof (hts _ st_7) (hts _ st_8) (hf _ st_5) hA
