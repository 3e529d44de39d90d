/-! PART 10c: what is left of soundness: rows of rows made at once, texts -/
section S10c
variable {d : Nat} {X : px_X} {Y : px_Y} {pc : Nat}
theorem px_lsw_ok {pc dd : Nat} {dflt : Int} {ps : List (Int × Int)} {l : List (Int32 × Nat)} (h : (decide ((pc : Int) + dflt = (dd : Int)) && decide (ps.length = l.length) && (List.zip ps l).all fun q => decide (q.1.1 = q.2.1.toInt) && decide ((pc : Int) + q.1.2 = (q.2.2 : Int))) = true) : ∀ x : Int32, (pc : Int) + Op.lookupswitch.offset ps dflt x.toInt = (px_swt x dd l : Int) := sorry
theorem sx_mna {index : Nat} (hd : decode Y.2.1 pc = .ok (.multianewarray index 2, 4)) (h1 : Cond.classLink Y.1.cls index "[[I" ∈ px_good) (h2 : Cond.arrayClass .int ∈ px_good) : px_Snd d X Y pc px_mna 4 := sorry
theorem sx_slen {index : Nat} (hd : decode Y.2.1 pc = .ok (.invokevirtual index, 3)) : px_Snd d X Y pc px_slen 3 := sorry
theorem sx_schr {index : Nat} (hd : decode Y.2.1 pc = .ok (.invokevirtual index, 3)) : px_Snd d X Y pc px_schr 3 := sorry
end S10c
