/-! names that no native row bears: one look at the rows, by codes -/
theorem nat_nm : Jvm.natives.all (fun r => !([25827140487512682340, 25827140487512090998] : List Nat).contains (nm_code r.name)) = true := by decide +kernel
theorem pf_of {y : MethodName} (h : ([25827140487512682340, 25827140487512090998] : List Nat).contains (nm_code y.name) = true) : plainFor y = true := by
  have hn : (NativeRow.find? Jvm.natives y.cls y.name y.desc).isNone = true := by
    unfold NativeRow.find?
    rw [Option.isNone_iff_eq_none, List.find?_eq_none]
    intro r hr he
    simp only [Bool.and_eq_true, beq_iff_eq] at he
    have h9 := List.all_eq_true.mp nat_nm r hr
    simp only [he.1.1, h, Bool.not_true] at h9
    cases h9
  unfold plainFor
  rw [hn, Bool.or_true]
