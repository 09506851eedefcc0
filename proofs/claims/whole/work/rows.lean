section
/-- the ground of 'a printed module doesn't compile': no start whose machine lacks this array class meets the premises -/
theorem gd_start {a : Array Value} {s : State} (h : s.vm.findClass "[Ljava/lang/StackTraceElement;" = none) : ¬ (Jvm.Cond.and given_1 narrow_1).before a s = true := by
  intro hb
  have hs := flat_of_before _ hb
  have hc : (Jvm.Cond.not (Jvm.Cond.castable "[Ljava/lang/StackTraceElement;" "OrderPatterns$Free")).before a s = true := hs _ (by decide +kernel)
  simp [Cond.before, Cond.holds, Cond.value, h] at hc
end
