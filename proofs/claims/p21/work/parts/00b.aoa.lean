/-! ===== the machine has a class of arrays over this array type, whatever the arguments: the printed row for multianewarray asks for it by this name ===== -/
def va_AOA (elem : FieldType) (at_ : State) : Prop := ∀ given : Array Value, (Cond.arrayOver (.array elem)).before given at_ = true
theorem va_AOA.use {elem : FieldType} {given : Array Value} {at_ : State} (h : va_AOA elem at_) : (Cond.arrayOver (.array elem)).before given at_ = true := h given
theorem aoa_any {elem : FieldType} {given : Array Value} {at_ : State} (h : (Cond.arrayOver (.array elem)).before given at_ = true) : va_AOA elem at_ := fun _ => h
