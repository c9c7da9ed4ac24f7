/-- Every start that the Statement allows has the class of arrays of StackTraceElement in its table: the premise's word on the cast to Castle has no value without it. (The printed start has no class of that name: REPORT.md, TRANSLATOR.) -/
theorem ev_wants {args : Array Value} {s : State} (h : (Jvm.Cond.and given_1 narrow_1).before args s = true) : ∃ c, s.vm.findClass "[Ljava/lang/StackTraceElement;" = some c := by
  have hs := flat_of_before _ h
  have hc : (Cond.not (Cond.castable "[Ljava/lang/StackTraceElement;" "CuratorAquarum$Castle")).before args s = true := hs _ (by decide +kernel)
  cases hf : s.vm.findClass "[Ljava/lang/StackTraceElement;" with
  | some c => exact ⟨c, rfl⟩
  | none => simp [Cond.before, Cond.holds, Cond.value, hf] at hc
