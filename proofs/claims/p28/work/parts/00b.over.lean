/-! an array of arrays of t has been made: the word that the printed row of 'new int[n][m]' asks for by this name -/
def va_AOA (t : FieldType) (U : State) : Prop := (Cond.arrayOver (.array t)).before #[] U = true
theorem va_AOA.of {t : FieldType} {a : Array Value} {U : State} (h : (Cond.arrayOver (.array t)).before a U = true) : va_AOA t U := h
theorem va_AOA.use {t : FieldType} {a : Array Value} {U : State} (h : va_AOA t U) : (Cond.arrayOver (.array t)).before a U = true := h
