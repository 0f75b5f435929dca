/-- a class of the kind 'array of int', not the one called [I: it has a clone of its own, whose code throws (aload_0; athrow) -/
def rg_K : Class := { Lib.HandJ.cls "[rogue" #[] #[] 0x411 #[] #[Lib.HandJ.method "clone" "()Ljava/lang/Object;" [] (some (.object "java/lang/Object")) 0x1 1 ⟨#[0x2a, 0xbf]⟩] #[] with kind := .array 24 .int, super := some 1, cf := none }
/-- the witness's start, but FIRST_MEASURES holds an array of that class -/
def rg_s : State := { start1.about with vm := { start1.about.vm with classes := start1.about.vm.classes.push rg_K }, heap := start1.about.heap.setIfInBounds 7 { cls := 37, slots := #[.int 200, .int 80, .int 150, .int 300, .int 60, .int 0], vm := .none } }
theorem rg_rise : rg_up start1.about rg_s := rg_up_of start1.about rg_K _
theorem rg_word_code : (Cond.code x code maxLocals ret).before start1.args0 rg_s = true := rg_carry rg_rise _ rfl start1.word_code
