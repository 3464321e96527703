
def RL : String := "SleepersLaw"
abbrev cL_routine : ByteArray := method_3_code
def yL_routine : MethodName := ⟨RL, "routine", "(LSleepers;II[J)I"⟩
abbrev cL_task : ByteArray := method_4_code
def yL_task : MethodName := ⟨RL, "task", "(LSleepers;II[J)I"⟩
abbrev cL_cell : ByteArray := method_5_code
def yL_cell : MethodName := ⟨RL, "cell", "(LSleepers;II[J)I"⟩
abbrev cL_law : ByteArray := code
def yL_law : MethodName := ⟨RL, "law", "([I)Z"⟩
