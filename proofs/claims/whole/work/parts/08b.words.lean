abbrev am_Mi : Type := MethodName × ByteArray × Nat × Option FieldType
abbrev am_code (M : am_Mi) : Cond := .code M.1 M.2.1 M.2.2.1 M.2.2.2
def am_ok (M : am_Mi) (n : Nat) : Prop := am_code M ∈ am_tbl ∧ Cond.initialized M.1.cls ∈ am_tbl ∧ (M.1.cls ≠ "java/lang/invoke/MethodHandle" ∧ M.1.cls ≠ "java/lang/invoke/VarHandle" ∧ (parseMethodDescriptor M.1.desc).map (fun d => d.parameters.length) = some n) ∧ plainName M.1.cls = true
def am_mV (M : am_Mi) (n : Nat) : Prop := am_ok M n ∧ Cond.instanceMethod M.1 ∈ am_tbl ∧ Cond.selects M.1.cls M.1 M.1 ∈ am_tbl
def am_mS (M : am_Mi) (n : Nat) : Prop := am_ok M n ∧ Cond.static M.1 ∈ am_tbl
def am_mI (M : am_Mi) (n : Nat) : Prop := am_ok M n ∧ Cond.instanceMethod M.1 ∈ am_tbl ∧ M.1.name = "<init>" ∧ M.2.2.2 = none
abbrev mX6_init : am_Mi := (yX6_init, cX6_init, 1, none)
theorem moX6_init : am_ok mX6_init 0 := ⟨am_wd (i := 90) (by decide +kernel) (by decide +kernel), am_wd (i := 70) (by decide +kernel) (by decide +kernel), ⟨by decide +kernel, by decide +kernel, by decide +kernel⟩, by decide +kernel⟩
theorem mfX6_init : am_mI mX6_init 0 := ⟨moX6_init, am_wd (i := 89) (by decide +kernel) (by decide +kernel), by decide +kernel, rfl⟩
abbrev mX4_init : am_Mi := (yX4_init, cX4_init, 1, none)
theorem moX4_init : am_ok mX4_init 0 := ⟨am_wd (i := 102) (by decide +kernel) (by decide +kernel), am_wd (i := 71) (by decide +kernel) (by decide +kernel), ⟨by decide +kernel, by decide +kernel, by decide +kernel⟩, by decide +kernel⟩
theorem mfX4_init : am_mI mX4_init 0 := ⟨moX4_init, am_wd (i := 101) (by decide +kernel) (by decide +kernel), by decide +kernel, rfl⟩
abbrev mX3_init : am_Mi := (yX3_init, cX3_init, 1, none)
theorem moX3_init : am_ok mX3_init 0 := ⟨am_wd (i := 134) (by decide +kernel) (by decide +kernel), am_wd (i := 72) (by decide +kernel) (by decide +kernel), ⟨by decide +kernel, by decide +kernel, by decide +kernel⟩, by decide +kernel⟩
theorem mfX3_init : am_mI mX3_init 0 := ⟨moX3_init, am_wd (i := 133) (by decide +kernel) (by decide +kernel), by decide +kernel, rfl⟩
abbrev mX2_init : am_Mi := (yX2_init, cX2_init, 1, none)
theorem moX2_init : am_ok mX2_init 0 := ⟨am_wd (i := 153) (by decide +kernel) (by decide +kernel), am_wd (i := 73) (by decide +kernel) (by decide +kernel), ⟨by decide +kernel, by decide +kernel, by decide +kernel⟩, by decide +kernel⟩
theorem mfX2_init : am_mI mX2_init 0 := ⟨moX2_init, am_wd (i := 152) (by decide +kernel) (by decide +kernel), by decide +kernel, rfl⟩
abbrev mX0_init : am_Mi := (yX0_init, cX0_init, 1, none)
theorem moX0_init : am_ok mX0_init 0 := ⟨am_wd (i := 184) (by decide +kernel) (by decide +kernel), am_wd (i := 74) (by decide +kernel) (by decide +kernel), ⟨by decide +kernel, by decide +kernel, by decide +kernel⟩, by decide +kernel⟩
theorem mfX0_init : am_mI mX0_init 0 := ⟨moX0_init, am_wd (i := 183) (by decide +kernel) (by decide +kernel), by decide +kernel, rfl⟩
abbrev mX4_write : am_Mi := (yX4_write, cX4_write, 3, none)
theorem moX4_write : am_ok mX4_write 1 := ⟨am_wd (i := 206) (by decide +kernel) (by decide +kernel), am_wd (i := 71) (by decide +kernel) (by decide +kernel), ⟨by decide +kernel, by decide +kernel, by decide +kernel⟩, by decide +kernel⟩
theorem mfX4_write : am_mV mX4_write 1 := ⟨moX4_write, am_wd (i := 204) (by decide +kernel) (by decide +kernel), am_wd (i := 205) (by decide +kernel) (by decide +kernel)⟩
abbrev mJ0_length_8abf5 : am_Mi := (yJ0_length_8abf5, cJ0_length_8abf5, 1, (some .int))
theorem moJ0_length_8abf5 : am_ok mJ0_length_8abf5 0 := ⟨am_wd (i := 210) (by decide +kernel) (by decide +kernel), am_wd (i := 75) (by decide +kernel) (by decide +kernel), ⟨by decide +kernel, by decide +kernel, by decide +kernel⟩, by decide +kernel⟩
theorem mfJ0_length_8abf5 : am_mV mJ0_length_8abf5 0 := ⟨moJ0_length_8abf5, am_wd (i := 208) (by decide +kernel) (by decide +kernel), am_wd (i := 209) (by decide +kernel) (by decide +kernel)⟩
abbrev mJ0_coder_7d493 : am_Mi := (yJ0_coder_7d493, cJ0_coder_7d493, 1, (some .byte))
theorem moJ0_coder_7d493 : am_ok mJ0_coder_7d493 0 := ⟨am_wd (i := 214) (by decide +kernel) (by decide +kernel), am_wd (i := 75) (by decide +kernel) (by decide +kernel), ⟨by decide +kernel, by decide +kernel, by decide +kernel⟩, by decide +kernel⟩
theorem mfJ0_coder_7d493 : am_mV mJ0_coder_7d493 0 := ⟨moJ0_coder_7d493, am_wd (i := 212) (by decide +kernel) (by decide +kernel), am_wd (i := 213) (by decide +kernel) (by decide +kernel)⟩
abbrev mJ0_charAt_5068e : am_Mi := (yJ0_charAt_5068e, cJ0_charAt_5068e, 2, (some .char))
theorem moJ0_charAt_5068e : am_ok mJ0_charAt_5068e 1 := ⟨am_wd (i := 220) (by decide +kernel) (by decide +kernel), am_wd (i := 75) (by decide +kernel) (by decide +kernel), ⟨by decide +kernel, by decide +kernel, by decide +kernel⟩, by decide +kernel⟩
theorem mfJ0_charAt_5068e : am_mV mJ0_charAt_5068e 1 := ⟨moJ0_charAt_5068e, am_wd (i := 218) (by decide +kernel) (by decide +kernel), am_wd (i := 219) (by decide +kernel) (by decide +kernel)⟩
abbrev mJ0_isLatin1_aae02 : am_Mi := (yJ0_isLatin1_aae02, cJ0_isLatin1_aae02, 1, (some .boolean))
theorem moJ0_isLatin1_aae02 : am_ok mJ0_isLatin1_aae02 0 := ⟨am_wd (i := 224) (by decide +kernel) (by decide +kernel), am_wd (i := 75) (by decide +kernel) (by decide +kernel), ⟨by decide +kernel, by decide +kernel, by decide +kernel⟩, by decide +kernel⟩
theorem mfJ0_isLatin1_aae02 : am_mV mJ0_isLatin1_aae02 0 := ⟨moJ0_isLatin1_aae02, am_wd (i := 222) (by decide +kernel) (by decide +kernel), am_wd (i := 223) (by decide +kernel) (by decide +kernel)⟩
abbrev mJ1_charAt_3b067 : am_Mi := (yJ1_charAt_3b067, cJ1_charAt_3b067, 2, (some .char))
theorem moJ1_charAt_3b067 : am_ok mJ1_charAt_3b067 2 := ⟨am_wd (i := 227) (by decide +kernel) (by decide +kernel), am_wd (i := 76) (by decide +kernel) (by decide +kernel), ⟨by decide +kernel, by decide +kernel, by decide +kernel⟩, by decide +kernel⟩
theorem mfJ1_charAt_3b067 : am_mS mJ1_charAt_3b067 2 := ⟨moJ1_charAt_3b067, am_wd (i := 226) (by decide +kernel) (by decide +kernel)⟩
abbrev mJ0_checkIndex_df160 : am_Mi := (yJ0_checkIndex_df160, cJ0_checkIndex_df160, 2, none)
theorem moJ0_checkIndex_df160 : am_ok mJ0_checkIndex_df160 2 := ⟨am_wd (i := 230) (by decide +kernel) (by decide +kernel), am_wd (i := 75) (by decide +kernel) (by decide +kernel), ⟨by decide +kernel, by decide +kernel, by decide +kernel⟩, by decide +kernel⟩
theorem mfJ0_checkIndex_df160 : am_mS mJ0_checkIndex_df160 2 := ⟨moJ0_checkIndex_df160, am_wd (i := 229) (by decide +kernel) (by decide +kernel)⟩
abbrev mJ3_checkIndex_8e157 : am_Mi := (yJ3_checkIndex_8e157, cJ3_checkIndex_8e157, 3, (some .int))
theorem moJ3_checkIndex_8e157 : am_ok mJ3_checkIndex_8e157 3 := ⟨am_wd (i := 235) (by decide +kernel) (by decide +kernel), am_wd (i := 77) (by decide +kernel) (by decide +kernel), ⟨by decide +kernel, by decide +kernel, by decide +kernel⟩, by decide +kernel⟩
theorem mfJ3_checkIndex_8e157 : am_mS mJ3_checkIndex_8e157 3 := ⟨moJ3_checkIndex_8e157, am_wd (i := 234) (by decide +kernel) (by decide +kernel)⟩
abbrev mJ2_charAt_3b067 : am_Mi := (yJ2_charAt_3b067, cJ2_charAt_3b067, 2, (some .char))
theorem moJ2_charAt_3b067 : am_ok mJ2_charAt_3b067 2 := ⟨am_wd (i := 238) (by decide +kernel) (by decide +kernel), am_wd (i := 78) (by decide +kernel) (by decide +kernel), ⟨by decide +kernel, by decide +kernel, by decide +kernel⟩, by decide +kernel⟩
theorem mfJ2_charAt_3b067 : am_mS mJ2_charAt_3b067 2 := ⟨moJ2_charAt_3b067, am_wd (i := 237) (by decide +kernel) (by decide +kernel)⟩
abbrev mJ2_checkIndex_2214a : am_Mi := (yJ2_checkIndex_2214a, cJ2_checkIndex_2214a, 2, none)
theorem moJ2_checkIndex_2214a : am_ok mJ2_checkIndex_2214a 2 := ⟨am_wd (i := 241) (by decide +kernel) (by decide +kernel), am_wd (i := 78) (by decide +kernel) (by decide +kernel), ⟨by decide +kernel, by decide +kernel, by decide +kernel⟩, by decide +kernel⟩
theorem mfJ2_checkIndex_2214a : am_mS mJ2_checkIndex_2214a 2 := ⟨moJ2_checkIndex_2214a, am_wd (i := 240) (by decide +kernel) (by decide +kernel)⟩
abbrev mJ2_length_9d52b : am_Mi := (yJ2_length_9d52b, cJ2_length_9d52b, 1, (some .int))
theorem moJ2_length_9d52b : am_ok mJ2_length_9d52b 1 := ⟨am_wd (i := 244) (by decide +kernel) (by decide +kernel), am_wd (i := 78) (by decide +kernel) (by decide +kernel), ⟨by decide +kernel, by decide +kernel, by decide +kernel⟩, by decide +kernel⟩
theorem mfJ2_length_9d52b : am_mS mJ2_length_9d52b 1 := ⟨moJ2_length_9d52b, am_wd (i := 243) (by decide +kernel) (by decide +kernel)⟩
abbrev mJ2_getChar_3b067 : am_Mi := (yJ2_getChar_3b067, cJ2_getChar_3b067, 2, (some .char))
theorem moJ2_getChar_3b067 : am_ok mJ2_getChar_3b067 2 := ⟨am_wd (i := 248) (by decide +kernel) (by decide +kernel), am_wd (i := 78) (by decide +kernel) (by decide +kernel), ⟨by decide +kernel, by decide +kernel, by decide +kernel⟩, by decide +kernel⟩
theorem mfJ2_getChar_3b067 : am_mS mJ2_getChar_3b067 2 := ⟨moJ2_getChar_3b067, am_wd (i := 247) (by decide +kernel) (by decide +kernel)⟩
abbrev mX4_put : am_Mi := (yX4_put, cX4_put, 2, none)
theorem moX4_put : am_ok mX4_put 1 := ⟨am_wd (i := 258) (by decide +kernel) (by decide +kernel), am_wd (i := 71) (by decide +kernel) (by decide +kernel), ⟨by decide +kernel, by decide +kernel, by decide +kernel⟩, by decide +kernel⟩
theorem mfX4_put : am_mV mX4_put 1 := ⟨moX4_put, am_wd (i := 256) (by decide +kernel) (by decide +kernel), am_wd (i := 257) (by decide +kernel) (by decide +kernel)⟩
abbrev mX4_read : am_Mi := (yX4_read, cX4_read, 3, (some (.object "QuestionsInAnInn$Text")))
theorem moX4_read : am_ok mX4_read 0 := ⟨am_wd (i := 262) (by decide +kernel) (by decide +kernel), am_wd (i := 71) (by decide +kernel) (by decide +kernel), ⟨by decide +kernel, by decide +kernel, by decide +kernel⟩, by decide +kernel⟩
theorem mfX4_read : am_mV mX4_read 0 := ⟨moX4_read, am_wd (i := 260) (by decide +kernel) (by decide +kernel), am_wd (i := 261) (by decide +kernel) (by decide +kernel)⟩
abbrev mX4_next : am_Mi := (yX4_next, cX4_next, 1, none)
theorem moX4_next : am_ok mX4_next 0 := ⟨am_wd (i := 266) (by decide +kernel) (by decide +kernel), am_wd (i := 71) (by decide +kernel) (by decide +kernel), ⟨by decide +kernel, by decide +kernel, by decide +kernel⟩, by decide +kernel⟩
theorem mfX4_next : am_mV mX4_next 0 := ⟨moX4_next, am_wd (i := 265) (by decide +kernel) (by decide +kernel), am_wd (i := 0) (by decide +kernel) (by decide +kernel)⟩
abbrev mX4_byteAt : am_Mi := (yX4_byteAt, cX4_byteAt, 2, (some .int))
theorem moX4_byteAt : am_ok mX4_byteAt 1 := ⟨am_wd (i := 270) (by decide +kernel) (by decide +kernel), am_wd (i := 71) (by decide +kernel) (by decide +kernel), ⟨by decide +kernel, by decide +kernel, by decide +kernel⟩, by decide +kernel⟩
theorem mfX4_byteAt : am_mV mX4_byteAt 1 := ⟨moX4_byteAt, am_wd (i := 269) (by decide +kernel) (by decide +kernel), am_wd (i := 1) (by decide +kernel) (by decide +kernel)⟩
abbrev mX4_isBlank : am_Mi := (yX4_isBlank, cX4_isBlank, 1, (some .boolean))
theorem moX4_isBlank : am_ok mX4_isBlank 1 := ⟨am_wd (i := 273) (by decide +kernel) (by decide +kernel), am_wd (i := 71) (by decide +kernel) (by decide +kernel), ⟨by decide +kernel, by decide +kernel, by decide +kernel⟩, by decide +kernel⟩
theorem mfX4_isBlank : am_mS mX4_isBlank 1 := ⟨moX4_isBlank, am_wd (i := 272) (by decide +kernel) (by decide +kernel)⟩
abbrev mX4_isLetter : am_Mi := (yX4_isLetter, cX4_isLetter, 1, (some .boolean))
theorem moX4_isLetter : am_ok mX4_isLetter 1 := ⟨am_wd (i := 276) (by decide +kernel) (by decide +kernel), am_wd (i := 71) (by decide +kernel) (by decide +kernel), ⟨by decide +kernel, by decide +kernel, by decide +kernel⟩, by decide +kernel⟩
theorem mfX4_isLetter : am_mS mX4_isLetter 1 := ⟨moX4_isLetter, am_wd (i := 275) (by decide +kernel) (by decide +kernel)⟩
abbrev mX4_word : am_Mi := (yX4_word, cX4_word, 1, (some .int))
theorem moX4_word : am_ok mX4_word 0 := ⟨am_wd (i := 280) (by decide +kernel) (by decide +kernel), am_wd (i := 71) (by decide +kernel) (by decide +kernel), ⟨by decide +kernel, by decide +kernel, by decide +kernel⟩, by decide +kernel⟩
theorem mfX4_word : am_mV mX4_word 0 := ⟨moX4_word, am_wd (i := 279) (by decide +kernel) (by decide +kernel), am_wd (i := 2) (by decide +kernel) (by decide +kernel)⟩
abbrev mX4_isWord : am_Mi := (yX4_isWord, cX4_isWord, 4, (some .boolean))
theorem moX4_isWord : am_ok mX4_isWord 1 := ⟨am_wd (i := 285) (by decide +kernel) (by decide +kernel), am_wd (i := 71) (by decide +kernel) (by decide +kernel), ⟨by decide +kernel, by decide +kernel, by decide +kernel⟩, by decide +kernel⟩
theorem mfX4_isWord : am_mV mX4_isWord 1 := ⟨moX4_isWord, am_wd (i := 284) (by decide +kernel) (by decide +kernel), am_wd (i := 3) (by decide +kernel) (by decide +kernel)⟩
abbrev mX4_isDigit : am_Mi := (yX4_isDigit, cX4_isDigit, 1, (some .boolean))
theorem moX4_isDigit : am_ok mX4_isDigit 1 := ⟨am_wd (i := 299) (by decide +kernel) (by decide +kernel), am_wd (i := 71) (by decide +kernel) (by decide +kernel), ⟨by decide +kernel, by decide +kernel, by decide +kernel⟩, by decide +kernel⟩
theorem mfX4_isDigit : am_mS mX4_isDigit 1 := ⟨moX4_isDigit, am_wd (i := 298) (by decide +kernel) (by decide +kernel)⟩
abbrev mX4_number : am_Mi := (yX4_number, cX4_number, 2, (some .int))
theorem moX4_number : am_ok mX4_number 0 := ⟨am_wd (i := 303) (by decide +kernel) (by decide +kernel), am_wd (i := 71) (by decide +kernel) (by decide +kernel), ⟨by decide +kernel, by decide +kernel, by decide +kernel⟩, by decide +kernel⟩
theorem mfX4_number : am_mV mX4_number 0 := ⟨moX4_number, am_wd (i := 302) (by decide +kernel) (by decide +kernel), am_wd (i := 4) (by decide +kernel) (by decide +kernel)⟩
abbrev mX4_sign : am_Mi := (yX4_sign, cX4_sign, 1, (some .int))
theorem moX4_sign : am_ok mX4_sign 1 := ⟨am_wd (i := 306) (by decide +kernel) (by decide +kernel), am_wd (i := 71) (by decide +kernel) (by decide +kernel), ⟨by decide +kernel, by decide +kernel, by decide +kernel⟩, by decide +kernel⟩
theorem mfX4_sign : am_mS mX4_sign 1 := ⟨moX4_sign, am_wd (i := 305) (by decide +kernel) (by decide +kernel)⟩
abbrev mX4_readPart : am_Mi := (yX4_readPart, cX4_readPart, 2, (some .boolean))
theorem moX4_readPart : am_ok mX4_readPart 1 := ⟨am_wd (i := 310) (by decide +kernel) (by decide +kernel), am_wd (i := 71) (by decide +kernel) (by decide +kernel), ⟨by decide +kernel, by decide +kernel, by decide +kernel⟩, by decide +kernel⟩
theorem mfX4_readPart : am_mV mX4_readPart 1 := ⟨moX4_readPart, am_wd (i := 309) (by decide +kernel) (by decide +kernel), am_wd (i := 5) (by decide +kernel) (by decide +kernel)⟩
abbrev mX4_took : am_Mi := (yX4_took, cX4_took, 2, (some .boolean))
theorem moX4_took : am_ok mX4_took 1 := ⟨am_wd (i := 314) (by decide +kernel) (by decide +kernel), am_wd (i := 71) (by decide +kernel) (by decide +kernel), ⟨by decide +kernel, by decide +kernel, by decide +kernel⟩, by decide +kernel⟩
theorem mfX4_took : am_mV mX4_took 1 := ⟨moX4_took, am_wd (i := 313) (by decide +kernel) (by decide +kernel), am_wd (i := 6) (by decide +kernel) (by decide +kernel)⟩
abbrev mX4_readE : am_Mi := (yX4_readE, cX4_readE, 3, (some .boolean))
theorem moX4_readE : am_ok mX4_readE 1 := ⟨am_wd (i := 318) (by decide +kernel) (by decide +kernel), am_wd (i := 71) (by decide +kernel) (by decide +kernel), ⟨by decide +kernel, by decide +kernel, by decide +kernel⟩, by decide +kernel⟩
theorem mfX4_readE : am_mV mX4_readE 1 := ⟨moX4_readE, am_wd (i := 317) (by decide +kernel) (by decide +kernel), am_wd (i := 7) (by decide +kernel) (by decide +kernel)⟩
abbrev mX4_readAnd : am_Mi := (yX4_readAnd, cX4_readAnd, 3, (some .boolean))
theorem moX4_readAnd : am_ok mX4_readAnd 1 := ⟨am_wd (i := 322) (by decide +kernel) (by decide +kernel), am_wd (i := 71) (by decide +kernel) (by decide +kernel), ⟨by decide +kernel, by decide +kernel, by decide +kernel⟩, by decide +kernel⟩
theorem mfX4_readAnd : am_mV mX4_readAnd 1 := ⟨moX4_readAnd, am_wd (i := 321) (by decide +kernel) (by decide +kernel), am_wd (i := 8) (by decide +kernel) (by decide +kernel)⟩
abbrev mX4_readNot : am_Mi := (yX4_readNot, cX4_readNot, 3, (some .boolean))
theorem moX4_readNot : am_ok mX4_readNot 1 := ⟨am_wd (i := 326) (by decide +kernel) (by decide +kernel), am_wd (i := 71) (by decide +kernel) (by decide +kernel), ⟨by decide +kernel, by decide +kernel, by decide +kernel⟩, by decide +kernel⟩
theorem mfX4_readNot : am_mV mX4_readNot 1 := ⟨moX4_readNot, am_wd (i := 325) (by decide +kernel) (by decide +kernel), am_wd (i := 9) (by decide +kernel) (by decide +kernel)⟩
abbrev mX4_step : am_Mi := (yX4_step, cX4_step, 2, none)
theorem moX4_step : am_ok mX4_step 1 := ⟨am_wd (i := 330) (by decide +kernel) (by decide +kernel), am_wd (i := 71) (by decide +kernel) (by decide +kernel), ⟨by decide +kernel, by decide +kernel, by decide +kernel⟩, by decide +kernel⟩
theorem mfX4_step : am_mV mX4_step 1 := ⟨moX4_step, am_wd (i := 329) (by decide +kernel) (by decide +kernel), am_wd (i := 10) (by decide +kernel) (by decide +kernel)⟩
abbrev mX4_readSum : am_Mi := (yX4_readSum, cX4_readSum, 4, (some .boolean))
theorem moX4_readSum : am_ok mX4_readSum 1 := ⟨am_wd (i := 334) (by decide +kernel) (by decide +kernel), am_wd (i := 71) (by decide +kernel) (by decide +kernel), ⟨by decide +kernel, by decide +kernel, by decide +kernel⟩, by decide +kernel⟩
theorem mfX4_readSum : am_mV mX4_readSum 1 := ⟨moX4_readSum, am_wd (i := 333) (by decide +kernel) (by decide +kernel), am_wd (i := 11) (by decide +kernel) (by decide +kernel)⟩
abbrev mX4_readTerm : am_Mi := (yX4_readTerm, cX4_readTerm, 3, (some .boolean))
theorem moX4_readTerm : am_ok mX4_readTerm 1 := ⟨am_wd (i := 338) (by decide +kernel) (by decide +kernel), am_wd (i := 71) (by decide +kernel) (by decide +kernel), ⟨by decide +kernel, by decide +kernel, by decide +kernel⟩, by decide +kernel⟩
theorem mfX4_readTerm : am_mV mX4_readTerm 1 := ⟨moX4_readTerm, am_wd (i := 337) (by decide +kernel) (by decide +kernel), am_wd (i := 12) (by decide +kernel) (by decide +kernel)⟩
abbrev mX4_readOne : am_Mi := (yX4_readOne, cX4_readOne, 2, (some .boolean))
theorem moX4_readOne : am_ok mX4_readOne 1 := ⟨am_wd (i := 342) (by decide +kernel) (by decide +kernel), am_wd (i := 71) (by decide +kernel) (by decide +kernel), ⟨by decide +kernel, by decide +kernel, by decide +kernel⟩, by decide +kernel⟩
theorem mfX4_readOne : am_mV mX4_readOne 1 := ⟨moX4_readOne, am_wd (i := 341) (by decide +kernel) (by decide +kernel), am_wd (i := 13) (by decide +kernel) (by decide +kernel)⟩
abbrev mJ7_copyOf_59c91 : am_Mi := (yJ7_copyOf_59c91, cJ7_copyOf_59c91, 3, (some (.array .int)))
theorem moJ7_copyOf_59c91 : am_ok mJ7_copyOf_59c91 2 := ⟨am_wd (i := 347) (by decide +kernel) (by decide +kernel), am_wd (i := 80) (by decide +kernel) (by decide +kernel), ⟨by decide +kernel, by decide +kernel, by decide +kernel⟩, by decide +kernel⟩
theorem mfJ7_copyOf_59c91 : am_mS mJ7_copyOf_59c91 2 := ⟨moJ7_copyOf_59c91, am_wd (i := 346) (by decide +kernel) (by decide +kernel)⟩
abbrev mX5_init : am_Mi := (yX5_init, cX5_init, 4, none)
theorem moX5_init : am_ok mX5_init 3 := ⟨am_wd (i := 363) (by decide +kernel) (by decide +kernel), am_wd (i := 79) (by decide +kernel) (by decide +kernel), ⟨by decide +kernel, by decide +kernel, by decide +kernel⟩, by decide +kernel⟩
theorem mfX5_init : am_mI mX5_init 3 := ⟨moX5_init, am_wd (i := 362) (by decide +kernel) (by decide +kernel), by decide +kernel, rfl⟩
abbrev mX4_clear : am_Mi := (yX4_clear, cX4_clear, 1, none)
theorem moX4_clear : am_ok mX4_clear 0 := ⟨am_wd (i := 382) (by decide +kernel) (by decide +kernel), am_wd (i := 71) (by decide +kernel) (by decide +kernel), ⟨by decide +kernel, by decide +kernel, by decide +kernel⟩, by decide +kernel⟩
theorem mfX4_clear : am_mV mX4_clear 0 := ⟨moX4_clear, am_wd (i := 380) (by decide +kernel) (by decide +kernel), am_wd (i := 381) (by decide +kernel) (by decide +kernel)⟩
abbrev mX6_count : am_Mi := (yX6_count, cX6_count, 2, (some .int))
theorem moX6_count : am_ok mX6_count 1 := ⟨am_wd (i := 435) (by decide +kernel) (by decide +kernel), am_wd (i := 70) (by decide +kernel) (by decide +kernel), ⟨by decide +kernel, by decide +kernel, by decide +kernel⟩, by decide +kernel⟩
theorem mfX6_count : am_mV mX6_count 1 := ⟨moX6_count, am_wd (i := 433) (by decide +kernel) (by decide +kernel), am_wd (i := 434) (by decide +kernel) (by decide +kernel)⟩
abbrev mX6_feed : am_Mi := (yX6_feed, cX6_feed, 7, (some .int))
theorem moX6_feed : am_ok mX6_feed 6 := ⟨am_wd (i := 439) (by decide +kernel) (by decide +kernel), am_wd (i := 70) (by decide +kernel) (by decide +kernel), ⟨by decide +kernel, by decide +kernel, by decide +kernel⟩, by decide +kernel⟩
theorem mfX6_feed : am_mV mX6_feed 6 := ⟨moX6_feed, am_wd (i := 437) (by decide +kernel) (by decide +kernel), am_wd (i := 438) (by decide +kernel) (by decide +kernel)⟩
abbrev mX6_isByte : am_Mi := (yX6_isByte, cX6_isByte, 1, (some .boolean))
theorem moX6_isByte : am_ok mX6_isByte 1 := ⟨am_wd (i := 442) (by decide +kernel) (by decide +kernel), am_wd (i := 70) (by decide +kernel) (by decide +kernel), ⟨by decide +kernel, by decide +kernel, by decide +kernel⟩, by decide +kernel⟩
theorem mfX6_isByte : am_mS mX6_isByte 1 := ⟨moX6_isByte, am_wd (i := 441) (by decide +kernel) (by decide +kernel)⟩
abbrev mX6_text : am_Mi := (yX6_text, cX6_text, 3, (some .int))
theorem moX6_text : am_ok mX6_text 0 := ⟨am_wd (i := 447) (by decide +kernel) (by decide +kernel), am_wd (i := 70) (by decide +kernel) (by decide +kernel), ⟨by decide +kernel, by decide +kernel, by decide +kernel⟩, by decide +kernel⟩
theorem mfX6_text : am_mV mX6_text 0 := ⟨moX6_text, am_wd (i := 445) (by decide +kernel) (by decide +kernel), am_wd (i := 446) (by decide +kernel) (by decide +kernel)⟩
abbrev mX6_force : am_Mi := (yX6_force, cX6_force, 3, (some .int))
theorem moX6_force : am_ok mX6_force 1 := ⟨am_wd (i := 451) (by decide +kernel) (by decide +kernel), am_wd (i := 70) (by decide +kernel) (by decide +kernel), ⟨by decide +kernel, by decide +kernel, by decide +kernel⟩, by decide +kernel⟩
theorem mfX6_force : am_mV mX6_force 1 := ⟨moX6_force, am_wd (i := 449) (by decide +kernel) (by decide +kernel), am_wd (i := 450) (by decide +kernel) (by decide +kernel)⟩
abbrev mX6_asks : am_Mi := (yX6_asks, cX6_asks, 7, (some .int))
theorem moX6_asks : am_ok mX6_asks 5 := ⟨am_wd (i := 455) (by decide +kernel) (by decide +kernel), am_wd (i := 70) (by decide +kernel) (by decide +kernel), ⟨by decide +kernel, by decide +kernel, by decide +kernel⟩, by decide +kernel⟩
theorem mfX6_asks : am_mV mX6_asks 5 := ⟨moX6_asks, am_wd (i := 453) (by decide +kernel) (by decide +kernel), am_wd (i := 454) (by decide +kernel) (by decide +kernel)⟩
abbrev mX6_lawText : am_Mi := (yX6_lawText, cX6_lawText, 1, (some (.object "QuestionsInAnInn$Text")))
theorem moX6_lawText : am_ok mX6_lawText 0 := ⟨am_wd (i := 459) (by decide +kernel) (by decide +kernel), am_wd (i := 70) (by decide +kernel) (by decide +kernel), ⟨by decide +kernel, by decide +kernel, by decide +kernel⟩, by decide +kernel⟩
theorem mfX6_lawText : am_mV mX6_lawText 0 := ⟨moX6_lawText, am_wd (i := 458) (by decide +kernel) (by decide +kernel), am_wd (i := 14) (by decide +kernel) (by decide +kernel)⟩
abbrev mX6_name : am_Mi := (yX6_name, cX6_name, 4, none)
theorem moX6_name : am_ok mX6_name 4 := ⟨am_wd (i := 462) (by decide +kernel) (by decide +kernel), am_wd (i := 70) (by decide +kernel) (by decide +kernel), ⟨by decide +kernel, by decide +kernel, by decide +kernel⟩, by decide +kernel⟩
theorem mfX6_name : am_mS mX6_name 4 := ⟨moX6_name, am_wd (i := 461) (by decide +kernel) (by decide +kernel)⟩
abbrev mX6_nameMore : am_Mi := (yX6_nameMore, cX6_nameMore, 4, none)
theorem moX6_nameMore : am_ok mX6_nameMore 4 := ⟨am_wd (i := 465) (by decide +kernel) (by decide +kernel), am_wd (i := 70) (by decide +kernel) (by decide +kernel), ⟨by decide +kernel, by decide +kernel, by decide +kernel⟩, by decide +kernel⟩
theorem mfX6_nameMore : am_mS mX6_nameMore 4 := ⟨moX6_nameMore, am_wd (i := 464) (by decide +kernel) (by decide +kernel)⟩
abbrev mX5_says : am_Mi := (yX5_says, cX5_says, 3, (some .int))
theorem moX5_says : am_ok mX5_says 2 := ⟨am_wd (i := 469) (by decide +kernel) (by decide +kernel), am_wd (i := 79) (by decide +kernel) (by decide +kernel), ⟨by decide +kernel, by decide +kernel, by decide +kernel⟩, by decide +kernel⟩
theorem mfX5_says : am_mV mX5_says 2 := ⟨moX5_says, am_wd (i := 467) (by decide +kernel) (by decide +kernel), am_wd (i := 468) (by decide +kernel) (by decide +kernel)⟩
abbrev mX5_valueOf : am_Mi := (yX5_valueOf, cX5_valueOf, 7, (some .int))
theorem moX5_valueOf : am_ok mX5_valueOf 3 := ⟨am_wd (i := 473) (by decide +kernel) (by decide +kernel), am_wd (i := 79) (by decide +kernel) (by decide +kernel), ⟨by decide +kernel, by decide +kernel, by decide +kernel⟩, by decide +kernel⟩
theorem mfX5_valueOf : am_mV mX5_valueOf 3 := ⟨moX5_valueOf, am_wd (i := 472) (by decide +kernel) (by decide +kernel), am_wd (i := 15) (by decide +kernel) (by decide +kernel)⟩
abbrev mX5_joined : am_Mi := (yX5_joined, cX5_joined, 3, (some .int))
theorem moX5_joined : am_ok mX5_joined 3 := ⟨am_wd (i := 476) (by decide +kernel) (by decide +kernel), am_wd (i := 79) (by decide +kernel) (by decide +kernel), ⟨by decide +kernel, by decide +kernel, by decide +kernel⟩, by decide +kernel⟩
theorem mfX5_joined : am_mS mX5_joined 3 := ⟨moX5_joined, am_wd (i := 475) (by decide +kernel) (by decide +kernel)⟩
abbrev mX6_bounded : am_Mi := (yX6_bounded, cX6_bounded, 3, (some .int))
theorem moX6_bounded : am_ok mX6_bounded 3 := ⟨am_wd (i := 479) (by decide +kernel) (by decide +kernel), am_wd (i := 70) (by decide +kernel) (by decide +kernel), ⟨by decide +kernel, by decide +kernel, by decide +kernel⟩, by decide +kernel⟩
theorem mfX6_bounded : am_mS mX6_bounded 3 := ⟨moX6_bounded, am_wd (i := 478) (by decide +kernel) (by decide +kernel)⟩
abbrev mX6_come : am_Mi := (yX6_come, cX6_come, 4, (some .int))
theorem moX6_come : am_ok mX6_come 3 := ⟨am_wd (i := 487) (by decide +kernel) (by decide +kernel), am_wd (i := 70) (by decide +kernel) (by decide +kernel), ⟨by decide +kernel, by decide +kernel, by decide +kernel⟩, by decide +kernel⟩
theorem mfX6_come : am_mV mX6_come 3 := ⟨moX6_come, am_wd (i := 485) (by decide +kernel) (by decide +kernel), am_wd (i := 486) (by decide +kernel) (by decide +kernel)⟩
abbrev mX6_isTableOrNone : am_Mi := (yX6_isTableOrNone, cX6_isTableOrNone, 1, (some .boolean))
theorem moX6_isTableOrNone : am_ok mX6_isTableOrNone 1 := ⟨am_wd (i := 490) (by decide +kernel) (by decide +kernel), am_wd (i := 70) (by decide +kernel) (by decide +kernel), ⟨by decide +kernel, by decide +kernel, by decide +kernel⟩, by decide +kernel⟩
theorem mfX6_isTableOrNone : am_mS mX6_isTableOrNone 1 := ⟨moX6_isTableOrNone, am_wd (i := 489) (by decide +kernel) (by decide +kernel)⟩
abbrev mX6_isTable : am_Mi := (yX6_isTable, cX6_isTable, 1, (some .boolean))
theorem moX6_isTable : am_ok mX6_isTable 1 := ⟨am_wd (i := 493) (by decide +kernel) (by decide +kernel), am_wd (i := 70) (by decide +kernel) (by decide +kernel), ⟨by decide +kernel, by decide +kernel, by decide +kernel⟩, by decide +kernel⟩
theorem mfX6_isTable : am_mS mX6_isTable 1 := ⟨moX6_isTable, am_wd (i := 492) (by decide +kernel) (by decide +kernel)⟩
abbrev mX1_init : am_Mi := (yX1_init, cX1_init, 5, none)
theorem moX1_init : am_ok mX1_init 4 := ⟨am_wd (i := 497) (by decide +kernel) (by decide +kernel), am_wd (i := 84) (by decide +kernel) (by decide +kernel), ⟨by decide +kernel, by decide +kernel, by decide +kernel⟩, by decide +kernel⟩
theorem mfX1_init : am_mI mX1_init 4 := ⟨moX1_init, am_wd (i := 496) (by decide +kernel) (by decide +kernel), by decide +kernel, rfl⟩
abbrev mX6_learn : am_Mi := (yX6_learn, cX6_learn, 6, (some .int))
theorem moX6_learn : am_ok mX6_learn 3 := ⟨am_wd (i := 522) (by decide +kernel) (by decide +kernel), am_wd (i := 70) (by decide +kernel) (by decide +kernel), ⟨by decide +kernel, by decide +kernel, by decide +kernel⟩, by decide +kernel⟩
theorem mfX6_learn : am_mV mX6_learn 3 := ⟨moX6_learn, am_wd (i := 520) (by decide +kernel) (by decide +kernel), am_wd (i := 521) (by decide +kernel) (by decide +kernel)⟩
abbrev mX6_personAt : am_Mi := (yX6_personAt, cX6_personAt, 2, (some (.object "QuestionsInAnInn$Guest")))
theorem moX6_personAt : am_ok mX6_personAt 1 := ⟨am_wd (i := 526) (by decide +kernel) (by decide +kernel), am_wd (i := 70) (by decide +kernel) (by decide +kernel), ⟨by decide +kernel, by decide +kernel, by decide +kernel⟩, by decide +kernel⟩
theorem mfX6_personAt : am_mV mX6_personAt 1 := ⟨moX6_personAt, am_wd (i := 525) (by decide +kernel) (by decide +kernel), am_wd (i := 16) (by decide +kernel) (by decide +kernel)⟩
abbrev mX6_isTopic : am_Mi := (yX6_isTopic, cX6_isTopic, 1, (some .boolean))
theorem moX6_isTopic : am_ok mX6_isTopic 1 := ⟨am_wd (i := 529) (by decide +kernel) (by decide +kernel), am_wd (i := 70) (by decide +kernel) (by decide +kernel), ⟨by decide +kernel, by decide +kernel, by decide +kernel⟩, by decide +kernel⟩
theorem mfX6_isTopic : am_mS mX6_isTopic 1 := ⟨moX6_isTopic, am_wd (i := 528) (by decide +kernel) (by decide +kernel)⟩
abbrev mX1_deepAt : am_Mi := (yX1_deepAt, cX1_deepAt, 2, (some .int))
theorem moX1_deepAt : am_ok mX1_deepAt 1 := ⟨am_wd (i := 533) (by decide +kernel) (by decide +kernel), am_wd (i := 84) (by decide +kernel) (by decide +kernel), ⟨by decide +kernel, by decide +kernel, by decide +kernel⟩, by decide +kernel⟩
theorem mfX1_deepAt : am_mV mX1_deepAt 1 := ⟨moX1_deepAt, am_wd (i := 531) (by decide +kernel) (by decide +kernel), am_wd (i := 532) (by decide +kernel) (by decide +kernel)⟩
abbrev mX1_becomeDeep : am_Mi := (yX1_becomeDeep, cX1_becomeDeep, 3, none)
theorem moX1_becomeDeep : am_ok mX1_becomeDeep 2 := ⟨am_wd (i := 538) (by decide +kernel) (by decide +kernel), am_wd (i := 84) (by decide +kernel) (by decide +kernel), ⟨by decide +kernel, by decide +kernel, by decide +kernel⟩, by decide +kernel⟩
theorem mfX1_becomeDeep : am_mV mX1_becomeDeep 2 := ⟨moX1_becomeDeep, am_wd (i := 536) (by decide +kernel) (by decide +kernel), am_wd (i := 537) (by decide +kernel) (by decide +kernel)⟩
abbrev mX6_sit : am_Mi := (yX6_sit, cX6_sit, 5, (some .int))
theorem moX6_sit : am_ok mX6_sit 2 := ⟨am_wd (i := 543) (by decide +kernel) (by decide +kernel), am_wd (i := 70) (by decide +kernel) (by decide +kernel), ⟨by decide +kernel, by decide +kernel, by decide +kernel⟩, by decide +kernel⟩
theorem mfX6_sit : am_mV mX6_sit 2 := ⟨moX6_sit, am_wd (i := 541) (by decide +kernel) (by decide +kernel), am_wd (i := 542) (by decide +kernel) (by decide +kernel)⟩
abbrev mX6_told : am_Mi := (yX6_told, cX6_told, 4, (some .int))
theorem moX6_told : am_ok mX6_told 2 := ⟨am_wd (i := 547) (by decide +kernel) (by decide +kernel), am_wd (i := 70) (by decide +kernel) (by decide +kernel), ⟨by decide +kernel, by decide +kernel, by decide +kernel⟩, by decide +kernel⟩
theorem mfX6_told : am_mV mX6_told 2 := ⟨moX6_told, am_wd (i := 545) (by decide +kernel) (by decide +kernel), am_wd (i := 546) (by decide +kernel) (by decide +kernel)⟩
abbrev mX6_question : am_Mi := (yX6_question, cX6_question, 3, (some .int))
theorem moX6_question : am_ok mX6_question 2 := ⟨am_wd (i := 551) (by decide +kernel) (by decide +kernel), am_wd (i := 70) (by decide +kernel) (by decide +kernel), ⟨by decide +kernel, by decide +kernel, by decide +kernel⟩, by decide +kernel⟩
theorem mfX6_question : am_mV mX6_question 2 := ⟨moX6_question, am_wd (i := 549) (by decide +kernel) (by decide +kernel), am_wd (i := 550) (by decide +kernel) (by decide +kernel)⟩
abbrev mX6_askedOf : am_Mi := (yX6_askedOf, cX6_askedOf, 3, (some .int))
theorem moX6_askedOf : am_ok mX6_askedOf 2 := ⟨am_wd (i := 555) (by decide +kernel) (by decide +kernel), am_wd (i := 70) (by decide +kernel) (by decide +kernel), ⟨by decide +kernel, by decide +kernel, by decide +kernel⟩, by decide +kernel⟩
theorem mfX6_askedOf : am_mV mX6_askedOf 2 := ⟨moX6_askedOf, am_wd (i := 553) (by decide +kernel) (by decide +kernel), am_wd (i := 554) (by decide +kernel) (by decide +kernel)⟩
abbrev mX6_isQuestion : am_Mi := (yX6_isQuestion, cX6_isQuestion, 2, (some .boolean))
theorem moX6_isQuestion : am_ok mX6_isQuestion 1 := ⟨am_wd (i := 559) (by decide +kernel) (by decide +kernel), am_wd (i := 70) (by decide +kernel) (by decide +kernel), ⟨by decide +kernel, by decide +kernel, by decide +kernel⟩, by decide +kernel⟩
theorem mfX6_isQuestion : am_mV mX6_isQuestion 1 := ⟨moX6_isQuestion, am_wd (i := 558) (by decide +kernel) (by decide +kernel), am_wd (i := 17) (by decide +kernel) (by decide +kernel)⟩
abbrev mX6_isZeroOrOne : am_Mi := (yX6_isZeroOrOne, cX6_isZeroOrOne, 1, (some .boolean))
theorem moX6_isZeroOrOne : am_ok mX6_isZeroOrOne 1 := ⟨am_wd (i := 562) (by decide +kernel) (by decide +kernel), am_wd (i := 70) (by decide +kernel) (by decide +kernel), ⟨by decide +kernel, by decide +kernel, by decide +kernel⟩, by decide +kernel⟩
theorem mfX6_isZeroOrOne : am_mS mX6_isZeroOrOne 1 := ⟨moX6_isZeroOrOne, am_wd (i := 561) (by decide +kernel) (by decide +kernel)⟩
abbrev mX6_lay : am_Mi := (yX6_lay, cX6_lay, 4, (some .int))
theorem moX6_lay : am_ok mX6_lay 2 := ⟨am_wd (i := 566) (by decide +kernel) (by decide +kernel), am_wd (i := 70) (by decide +kernel) (by decide +kernel), ⟨by decide +kernel, by decide +kernel, by decide +kernel⟩, by decide +kernel⟩
theorem mfX6_lay : am_mV mX6_lay 2 := ⟨moX6_lay, am_wd (i := 564) (by decide +kernel) (by decide +kernel), am_wd (i := 565) (by decide +kernel) (by decide +kernel)⟩
abbrev mX6_laid : am_Mi := (yX6_laid, cX6_laid, 2, (some .int))
theorem moX6_laid : am_ok mX6_laid 1 := ⟨am_wd (i := 570) (by decide +kernel) (by decide +kernel), am_wd (i := 70) (by decide +kernel) (by decide +kernel), ⟨by decide +kernel, by decide +kernel, by decide +kernel⟩, by decide +kernel⟩
theorem mfX6_laid : am_mV mX6_laid 1 := ⟨moX6_laid, am_wd (i := 568) (by decide +kernel) (by decide +kernel), am_wd (i := 569) (by decide +kernel) (by decide +kernel)⟩
abbrev mX6_answer : am_Mi := (yX6_answer, cX6_answer, 5, (some .int))
theorem moX6_answer : am_ok mX6_answer 3 := ⟨am_wd (i := 574) (by decide +kernel) (by decide +kernel), am_wd (i := 70) (by decide +kernel) (by decide +kernel), ⟨by decide +kernel, by decide +kernel, by decide +kernel⟩, by decide +kernel⟩
theorem mfX6_answer : am_mV mX6_answer 3 := ⟨moX6_answer, am_wd (i := 572) (by decide +kernel) (by decide +kernel), am_wd (i := 573) (by decide +kernel) (by decide +kernel)⟩
abbrev mX6_reckon : am_Mi := (yX6_reckon, cX6_reckon, 2, none)
theorem moX6_reckon : am_ok mX6_reckon 0 := ⟨am_wd (i := 578) (by decide +kernel) (by decide +kernel), am_wd (i := 70) (by decide +kernel) (by decide +kernel), ⟨by decide +kernel, by decide +kernel, by decide +kernel⟩, by decide +kernel⟩
theorem mfX6_reckon : am_mV mX6_reckon 0 := ⟨moX6_reckon, am_wd (i := 577) (by decide +kernel) (by decide +kernel), am_wd (i := 18) (by decide +kernel) (by decide +kernel)⟩
abbrev mX0_reckonPoints : am_Mi := (yX0_reckonPoints, cX0_reckonPoints, 6, none)
theorem moX0_reckonPoints : am_ok mX0_reckonPoints 4 := ⟨am_wd (i := 582) (by decide +kernel) (by decide +kernel), am_wd (i := 74) (by decide +kernel) (by decide +kernel), ⟨by decide +kernel, by decide +kernel, by decide +kernel⟩, by decide +kernel⟩
theorem mfX0_reckonPoints : am_mV mX0_reckonPoints 4 := ⟨moX0_reckonPoints, am_wd (i := 580) (by decide +kernel) (by decide +kernel), am_wd (i := 581) (by decide +kernel) (by decide +kernel)⟩
abbrev mX0_reckonPerson : am_Mi := (yX0_reckonPerson, cX0_reckonPerson, 8, none)
theorem moX0_reckonPerson : am_ok mX0_reckonPerson 5 := ⟨am_wd (i := 591) (by decide +kernel) (by decide +kernel), am_wd (i := 74) (by decide +kernel) (by decide +kernel), ⟨by decide +kernel, by decide +kernel, by decide +kernel⟩, by decide +kernel⟩
theorem mfX0_reckonPerson : am_mV mX0_reckonPerson 5 := ⟨moX0_reckonPerson, am_wd (i := 589) (by decide +kernel) (by decide +kernel), am_wd (i := 590) (by decide +kernel) (by decide +kernel)⟩
abbrev mX1_knows : am_Mi := (yX1_knows, cX1_knows, 4, (some .int))
theorem moX1_knows : am_ok mX1_knows 2 := ⟨am_wd (i := 595) (by decide +kernel) (by decide +kernel), am_wd (i := 84) (by decide +kernel) (by decide +kernel), ⟨by decide +kernel, by decide +kernel, by decide +kernel⟩, by decide +kernel⟩
theorem mfX1_knows : am_mV mX1_knows 2 := ⟨moX1_knows, am_wd (i := 593) (by decide +kernel) (by decide +kernel), am_wd (i := 594) (by decide +kernel) (by decide +kernel)⟩
abbrev mX1_isOf : am_Mi := (yX1_isOf, cX1_isOf, 4, (some .boolean))
theorem moX1_isOf : am_ok mX1_isOf 1 := ⟨am_wd (i := 600) (by decide +kernel) (by decide +kernel), am_wd (i := 84) (by decide +kernel) (by decide +kernel), ⟨by decide +kernel, by decide +kernel, by decide +kernel⟩, by decide +kernel⟩
theorem mfX1_isOf : am_mV mX1_isOf 1 := ⟨moX1_isOf, am_wd (i := 598) (by decide +kernel) (by decide +kernel), am_wd (i := 599) (by decide +kernel) (by decide +kernel)⟩
abbrev mX1_isOwn : am_Mi := (yX1_isOwn, cX1_isOwn, 2, (some .boolean))
theorem moX1_isOwn : am_ok mX1_isOwn 1 := ⟨am_wd (i := 606) (by decide +kernel) (by decide +kernel), am_wd (i := 84) (by decide +kernel) (by decide +kernel), ⟨by decide +kernel, by decide +kernel, by decide +kernel⟩, by decide +kernel⟩
theorem mfX1_isOwn : am_mV mX1_isOwn 1 := ⟨moX1_isOwn, am_wd (i := 605) (by decide +kernel) (by decide +kernel), am_wd (i := 19) (by decide +kernel) (by decide +kernel)⟩
abbrev mX1_loudAt : am_Mi := (yX1_loudAt, cX1_loudAt, 2, (some .int))
theorem moX1_loudAt : am_ok mX1_loudAt 1 := ⟨am_wd (i := 610) (by decide +kernel) (by decide +kernel), am_wd (i := 84) (by decide +kernel) (by decide +kernel), ⟨by decide +kernel, by decide +kernel, by decide +kernel⟩, by decide +kernel⟩
theorem mfX1_loudAt : am_mV mX1_loudAt 1 := ⟨moX1_loudAt, am_wd (i := 608) (by decide +kernel) (by decide +kernel), am_wd (i := 609) (by decide +kernel) (by decide +kernel)⟩
abbrev mX6_findRights : am_Mi := (yX6_findRights, cX6_findRights, 2, none)
theorem moX6_findRights : am_ok mX6_findRights 0 := ⟨am_wd (i := 614) (by decide +kernel) (by decide +kernel), am_wd (i := 70) (by decide +kernel) (by decide +kernel), ⟨by decide +kernel, by decide +kernel, by decide +kernel⟩, by decide +kernel⟩
theorem mfX6_findRights : am_mV mX6_findRights 0 := ⟨moX6_findRights, am_wd (i := 613) (by decide +kernel) (by decide +kernel), am_wd (i := 20) (by decide +kernel) (by decide +kernel)⟩
abbrev mX6_seatedAt : am_Mi := (yX6_seatedAt, cX6_seatedAt, 5, (some .int))
theorem moX6_seatedAt : am_ok mX6_seatedAt 1 := ⟨am_wd (i := 618) (by decide +kernel) (by decide +kernel), am_wd (i := 70) (by decide +kernel) (by decide +kernel), ⟨by decide +kernel, by decide +kernel, by decide +kernel⟩, by decide +kernel⟩
theorem mfX6_seatedAt : am_mV mX6_seatedAt 1 := ⟨moX6_seatedAt, am_wd (i := 617) (by decide +kernel) (by decide +kernel), am_wd (i := 21) (by decide +kernel) (by decide +kernel)⟩
abbrev mX0_rightOf : am_Mi := (yX0_rightOf, cX0_rightOf, 5, (some .int))
theorem moX0_rightOf : am_ok mX0_rightOf 1 := ⟨am_wd (i := 622) (by decide +kernel) (by decide +kernel), am_wd (i := 74) (by decide +kernel) (by decide +kernel), ⟨by decide +kernel, by decide +kernel, by decide +kernel⟩, by decide +kernel⟩
theorem mfX0_rightOf : am_mV mX0_rightOf 1 := ⟨moX0_rightOf, am_wd (i := 620) (by decide +kernel) (by decide +kernel), am_wd (i := 621) (by decide +kernel) (by decide +kernel)⟩
abbrev mX0_believed : am_Mi := (yX0_believed, cX0_believed, 7, (some .int))
theorem moX0_believed : am_ok mX0_believed 2 := ⟨am_wd (i := 626) (by decide +kernel) (by decide +kernel), am_wd (i := 74) (by decide +kernel) (by decide +kernel), ⟨by decide +kernel, by decide +kernel, by decide +kernel⟩, by decide +kernel⟩
theorem mfX0_believed : am_mV mX0_believed 2 := ⟨moX0_believed, am_wd (i := 624) (by decide +kernel) (by decide +kernel), am_wd (i := 625) (by decide +kernel) (by decide +kernel)⟩
abbrev mX0_ableOf : am_Mi := (yX0_ableOf, cX0_ableOf, 3, (some .int))
theorem moX0_ableOf : am_ok mX0_ableOf 2 := ⟨am_wd (i := 631) (by decide +kernel) (by decide +kernel), am_wd (i := 74) (by decide +kernel) (by decide +kernel), ⟨by decide +kernel, by decide +kernel, by decide +kernel⟩, by decide +kernel⟩
theorem mfX0_ableOf : am_mV mX0_ableOf 2 := ⟨moX0_ableOf, am_wd (i := 629) (by decide +kernel) (by decide +kernel), am_wd (i := 630) (by decide +kernel) (by decide +kernel)⟩
abbrev mX6_score : am_Mi := (yX6_score, cX6_score, 3, (some .int))
theorem moX6_score : am_ok mX6_score 2 := ⟨am_wd (i := 635) (by decide +kernel) (by decide +kernel), am_wd (i := 70) (by decide +kernel) (by decide +kernel), ⟨by decide +kernel, by decide +kernel, by decide +kernel⟩, by decide +kernel⟩
theorem mfX6_score : am_mV mX6_score 2 := ⟨moX6_score, am_wd (i := 633) (by decide +kernel) (by decide +kernel), am_wd (i := 634) (by decide +kernel) (by decide +kernel)⟩
abbrev mX6_scoreNow : am_Mi := (yX6_scoreNow, cX6_scoreNow, 2, (some .int))
theorem moX6_scoreNow : am_ok mX6_scoreNow 1 := ⟨am_wd (i := 639) (by decide +kernel) (by decide +kernel), am_wd (i := 70) (by decide +kernel) (by decide +kernel), ⟨by decide +kernel, by decide +kernel, by decide +kernel⟩, by decide +kernel⟩
theorem mfX6_scoreNow : am_mV mX6_scoreNow 1 := ⟨moX6_scoreNow, am_wd (i := 638) (by decide +kernel) (by decide +kernel), am_wd (i := 22) (by decide +kernel) (by decide +kernel)⟩
abbrev mX0_worth : am_Mi := (yX0_worth, cX0_worth, 5, (some .int))
theorem moX0_worth : am_ok mX0_worth 2 := ⟨am_wd (i := 643) (by decide +kernel) (by decide +kernel), am_wd (i := 74) (by decide +kernel) (by decide +kernel), ⟨by decide +kernel, by decide +kernel, by decide +kernel⟩, by decide +kernel⟩
theorem mfX0_worth : am_mV mX0_worth 2 := ⟨moX0_worth, am_wd (i := 641) (by decide +kernel) (by decide +kernel), am_wd (i := 642) (by decide +kernel) (by decide +kernel)⟩
abbrev mX0_coveredBy : am_Mi := (yX0_coveredBy, cX0_coveredBy, 4, (some .int))
theorem moX0_coveredBy : am_ok mX0_coveredBy 1 := ⟨am_wd (i := 647) (by decide +kernel) (by decide +kernel), am_wd (i := 74) (by decide +kernel) (by decide +kernel), ⟨by decide +kernel, by decide +kernel, by decide +kernel⟩, by decide +kernel⟩
theorem mfX0_coveredBy : am_mV mX0_coveredBy 1 := ⟨moX0_coveredBy, am_wd (i := 645) (by decide +kernel) (by decide +kernel), am_wd (i := 646) (by decide +kernel) (by decide +kernel)⟩
abbrev mX6_evening : am_Mi := (yX6_evening, cX6_evening, 2, (some .int))
theorem moX6_evening : am_ok mX6_evening 1 := ⟨am_wd (i := 652) (by decide +kernel) (by decide +kernel), am_wd (i := 70) (by decide +kernel) (by decide +kernel), ⟨by decide +kernel, by decide +kernel, by decide +kernel⟩, by decide +kernel⟩
theorem mfX6_evening : am_mV mX6_evening 1 := ⟨moX6_evening, am_wd (i := 650) (by decide +kernel) (by decide +kernel), am_wd (i := 651) (by decide +kernel) (by decide +kernel)⟩
abbrev mX6_winner : am_Mi := (yX6_winner, cX6_winner, 3, (some .int))
theorem moX6_winner : am_ok mX6_winner 0 := ⟨am_wd (i := 656) (by decide +kernel) (by decide +kernel), am_wd (i := 70) (by decide +kernel) (by decide +kernel), ⟨by decide +kernel, by decide +kernel, by decide +kernel⟩, by decide +kernel⟩
theorem mfX6_winner : am_mV mX6_winner 0 := ⟨moX6_winner, am_wd (i := 655) (by decide +kernel) (by decide +kernel), am_wd (i := 23) (by decide +kernel) (by decide +kernel)⟩
abbrev mX6_apartBy : am_Mi := (yX6_apartBy, cX6_apartBy, 6, (some .int))
theorem moX6_apartBy : am_ok mX6_apartBy 1 := ⟨am_wd (i := 660) (by decide +kernel) (by decide +kernel), am_wd (i := 70) (by decide +kernel) (by decide +kernel), ⟨by decide +kernel, by decide +kernel, by decide +kernel⟩, by decide +kernel⟩
theorem mfX6_apartBy : am_mV mX6_apartBy 1 := ⟨moX6_apartBy, am_wd (i := 659) (by decide +kernel) (by decide +kernel), am_wd (i := 24) (by decide +kernel) (by decide +kernel)⟩
abbrev mX6_best : am_Mi := (yX6_best, cX6_best, 7, (some .int))
theorem moX6_best : am_ok mX6_best 2 := ⟨am_wd (i := 664) (by decide +kernel) (by decide +kernel), am_wd (i := 70) (by decide +kernel) (by decide +kernel), ⟨by decide +kernel, by decide +kernel, by decide +kernel⟩, by decide +kernel⟩
theorem mfX6_best : am_mV mX6_best 2 := ⟨moX6_best, am_wd (i := 662) (by decide +kernel) (by decide +kernel), am_wd (i := 663) (by decide +kernel) (by decide +kernel)⟩
abbrev mX6_join : am_Mi := (yX6_join, cX6_join, 8, (some .int))
theorem moX6_join : am_ok mX6_join 2 := ⟨am_wd (i := 668) (by decide +kernel) (by decide +kernel), am_wd (i := 70) (by decide +kernel) (by decide +kernel), ⟨by decide +kernel, by decide +kernel, by decide +kernel⟩, by decide +kernel⟩
theorem mfX6_join : am_mV mX6_join 2 := ⟨moX6_join, am_wd (i := 666) (by decide +kernel) (by decide +kernel), am_wd (i := 667) (by decide +kernel) (by decide +kernel)⟩
abbrev mX6_scoreIf : am_Mi := (yX6_scoreIf, cX6_scoreIf, 3, (some .int))
theorem moX6_scoreIf : am_ok mX6_scoreIf 2 := ⟨am_wd (i := 672) (by decide +kernel) (by decide +kernel), am_wd (i := 70) (by decide +kernel) (by decide +kernel), ⟨by decide +kernel, by decide +kernel, by decide +kernel⟩, by decide +kernel⟩
theorem mfX6_scoreIf : am_mV mX6_scoreIf 2 := ⟨moX6_scoreIf, am_wd (i := 671) (by decide +kernel) (by decide +kernel), am_wd (i := 25) (by decide +kernel) (by decide +kernel)⟩
abbrev mX6_leave : am_Mi := (yX6_leave, cX6_leave, 8, (some .int))
theorem moX6_leave : am_ok mX6_leave 2 := ⟨am_wd (i := 676) (by decide +kernel) (by decide +kernel), am_wd (i := 70) (by decide +kernel) (by decide +kernel), ⟨by decide +kernel, by decide +kernel, by decide +kernel⟩, by decide +kernel⟩
theorem mfX6_leave : am_mV mX6_leave 2 := ⟨moX6_leave, am_wd (i := 674) (by decide +kernel) (by decide +kernel), am_wd (i := 675) (by decide +kernel) (by decide +kernel)⟩
abbrev mX6_cover : am_Mi := (yX6_cover, cX6_cover, 7, (some .int))
theorem moX6_cover : am_ok mX6_cover 1 := ⟨am_wd (i := 680) (by decide +kernel) (by decide +kernel), am_wd (i := 70) (by decide +kernel) (by decide +kernel), ⟨by decide +kernel, by decide +kernel, by decide +kernel⟩, by decide +kernel⟩
theorem mfX6_cover : am_mV mX6_cover 1 := ⟨moX6_cover, am_wd (i := 678) (by decide +kernel) (by decide +kernel), am_wd (i := 679) (by decide +kernel) (by decide +kernel)⟩
abbrev mJ6_bitCount_0f7a4 : am_Mi := (yJ6_bitCount_0f7a4, cJ6_bitCount_0f7a4, 1, (some .int))
theorem moJ6_bitCount_0f7a4 : am_ok mJ6_bitCount_0f7a4 1 := ⟨am_wd (i := 683) (by decide +kernel) (by decide +kernel), am_wd (i := 85) (by decide +kernel) (by decide +kernel), ⟨by decide +kernel, by decide +kernel, by decide +kernel⟩, by decide +kernel⟩
theorem mfJ6_bitCount_0f7a4 : am_mS mJ6_bitCount_0f7a4 1 := ⟨moJ6_bitCount_0f7a4, am_wd (i := 682) (by decide +kernel) (by decide +kernel)⟩
abbrev mX6_hire : am_Mi := (yX6_hire, cX6_hire, 13, (some .int))
theorem moX6_hire : am_ok mX6_hire 3 := ⟨am_wd (i := 690) (by decide +kernel) (by decide +kernel), am_wd (i := 70) (by decide +kernel) (by decide +kernel), ⟨by decide +kernel, by decide +kernel, by decide +kernel⟩, by decide +kernel⟩
theorem mfX6_hire : am_mV mX6_hire 3 := ⟨moX6_hire, am_wd (i := 688) (by decide +kernel) (by decide +kernel), am_wd (i := 689) (by decide +kernel) (by decide +kernel)⟩
abbrev mX6_costOf : am_Mi := (yX6_costOf, cX6_costOf, 5, (some .int))
theorem moX6_costOf : am_ok mX6_costOf 2 := ⟨am_wd (i := 694) (by decide +kernel) (by decide +kernel), am_wd (i := 70) (by decide +kernel) (by decide +kernel), ⟨by decide +kernel, by decide +kernel, by decide +kernel⟩, by decide +kernel⟩
theorem mfX6_costOf : am_mV mX6_costOf 2 := ⟨moX6_costOf, am_wd (i := 693) (by decide +kernel) (by decide +kernel), am_wd (i := 26) (by decide +kernel) (by decide +kernel)⟩
abbrev mX1_deepestTopic : am_Mi := (yX1_deepestTopic, cX1_deepestTopic, 3, (some .int))
theorem moX1_deepestTopic : am_ok mX1_deepestTopic 0 := ⟨am_wd (i := 698) (by decide +kernel) (by decide +kernel), am_wd (i := 84) (by decide +kernel) (by decide +kernel), ⟨by decide +kernel, by decide +kernel, by decide +kernel⟩, by decide +kernel⟩
theorem mfX1_deepestTopic : am_mV mX1_deepestTopic 0 := ⟨moX1_deepestTopic, am_wd (i := 696) (by decide +kernel) (by decide +kernel), am_wd (i := 697) (by decide +kernel) (by decide +kernel)⟩
abbrev mX6_price : am_Mi := (yX6_price, cX6_price, 3, (some .int))
theorem moX6_price : am_ok mX6_price 1 := ⟨am_wd (i := 702) (by decide +kernel) (by decide +kernel), am_wd (i := 70) (by decide +kernel) (by decide +kernel), ⟨by decide +kernel, by decide +kernel, by decide +kernel⟩, by decide +kernel⟩
theorem mfX6_price : am_mV mX6_price 1 := ⟨moX6_price, am_wd (i := 700) (by decide +kernel) (by decide +kernel), am_wd (i := 701) (by decide +kernel) (by decide +kernel)⟩
abbrev mX6_close : am_Mi := (yX6_close, cX6_close, 7, (some .int))
theorem moX6_close : am_ok mX6_close 2 := ⟨am_wd (i := 706) (by decide +kernel) (by decide +kernel), am_wd (i := 70) (by decide +kernel) (by decide +kernel), ⟨by decide +kernel, by decide +kernel, by decide +kernel⟩, by decide +kernel⟩
theorem mfX6_close : am_mV mX6_close 2 := ⟨moX6_close, am_wd (i := 704) (by decide +kernel) (by decide +kernel), am_wd (i := 705) (by decide +kernel) (by decide +kernel)⟩
abbrev mX6_good : am_Mi := (yX6_good, cX6_good, 6, (some .int))
theorem moX6_good : am_ok mX6_good 1 := ⟨am_wd (i := 710) (by decide +kernel) (by decide +kernel), am_wd (i := 70) (by decide +kernel) (by decide +kernel), ⟨by decide +kernel, by decide +kernel, by decide +kernel⟩, by decide +kernel⟩
theorem mfX6_good : am_mV mX6_good 1 := ⟨moX6_good, am_wd (i := 708) (by decide +kernel) (by decide +kernel), am_wd (i := 709) (by decide +kernel) (by decide +kernel)⟩
abbrev mJ6_compare_7cf53 : am_Mi := (yJ6_compare_7cf53, cJ6_compare_7cf53, 2, (some .int))
theorem moJ6_compare_7cf53 : am_ok mJ6_compare_7cf53 2 := ⟨am_wd (i := 714) (by decide +kernel) (by decide +kernel), am_wd (i := 85) (by decide +kernel) (by decide +kernel), ⟨by decide +kernel, by decide +kernel, by decide +kernel⟩, by decide +kernel⟩
theorem mfJ6_compare_7cf53 : am_mS mJ6_compare_7cf53 2 := ⟨moJ6_compare_7cf53, am_wd (i := 713) (by decide +kernel) (by decide +kernel)⟩
abbrev mX6_alike : am_Mi := (yX6_alike, cX6_alike, 7, (some .long))
theorem moX6_alike : am_ok mX6_alike 3 := ⟨am_wd (i := 718) (by decide +kernel) (by decide +kernel), am_wd (i := 70) (by decide +kernel) (by decide +kernel), ⟨by decide +kernel, by decide +kernel, by decide +kernel⟩, by decide +kernel⟩
theorem mfX6_alike : am_mV mX6_alike 3 := ⟨moX6_alike, am_wd (i := 716) (by decide +kernel) (by decide +kernel), am_wd (i := 717) (by decide +kernel) (by decide +kernel)⟩
abbrev mX6_lowest : am_Mi := (yX6_lowest, cX6_lowest, 7, (some .long))
theorem moX6_lowest : am_ok mX6_lowest 3 := ⟨am_wd (i := 722) (by decide +kernel) (by decide +kernel), am_wd (i := 70) (by decide +kernel) (by decide +kernel), ⟨by decide +kernel, by decide +kernel, by decide +kernel⟩, by decide +kernel⟩
theorem mfX6_lowest : am_mS mX6_lowest 3 := ⟨moX6_lowest, am_wd (i := 721) (by decide +kernel) (by decide +kernel)⟩
abbrev mX6_change : am_Mi := (yX6_change, cX6_change, 7, (some .int))
theorem moX6_change : am_ok mX6_change 1 := ⟨am_wd (i := 726) (by decide +kernel) (by decide +kernel), am_wd (i := 70) (by decide +kernel) (by decide +kernel), ⟨by decide +kernel, by decide +kernel, by decide +kernel⟩, by decide +kernel⟩
theorem mfX6_change : am_mV mX6_change 1 := ⟨moX6_change, am_wd (i := 724) (by decide +kernel) (by decide +kernel), am_wd (i := 725) (by decide +kernel) (by decide +kernel)⟩
abbrev mX6_apartIfChanged : am_Mi := (yX6_apartIfChanged, cX6_apartIfChanged, 4, (some .int))
theorem moX6_apartIfChanged : am_ok mX6_apartIfChanged 2 := ⟨am_wd (i := 730) (by decide +kernel) (by decide +kernel), am_wd (i := 70) (by decide +kernel) (by decide +kernel), ⟨by decide +kernel, by decide +kernel, by decide +kernel⟩, by decide +kernel⟩
theorem mfX6_apartIfChanged : am_mV mX6_apartIfChanged 2 := ⟨moX6_apartIfChanged, am_wd (i := 729) (by decide +kernel) (by decide +kernel), am_wd (i := 27) (by decide +kernel) (by decide +kernel)⟩
abbrev mX6_changePlaces : am_Mi := (yX6_changePlaces, cX6_changePlaces, 3, none)
theorem moX6_changePlaces : am_ok mX6_changePlaces 2 := ⟨am_wd (i := 733) (by decide +kernel) (by decide +kernel), am_wd (i := 70) (by decide +kernel) (by decide +kernel), ⟨by decide +kernel, by decide +kernel, by decide +kernel⟩, by decide +kernel⟩
theorem mfX6_changePlaces : am_mS mX6_changePlaces 2 := ⟨moX6_changePlaces, am_wd (i := 732) (by decide +kernel) (by decide +kernel)⟩
abbrev mX6_judge : am_Mi := (yX6_judge, cX6_judge, 4, (some .int))
theorem moX6_judge : am_ok mX6_judge 2 := ⟨am_wd (i := 737) (by decide +kernel) (by decide +kernel), am_wd (i := 70) (by decide +kernel) (by decide +kernel), ⟨by decide +kernel, by decide +kernel, by decide +kernel⟩, by decide +kernel⟩
theorem mfX6_judge : am_mV mX6_judge 2 := ⟨moX6_judge, am_wd (i := 735) (by decide +kernel) (by decide +kernel), am_wd (i := 736) (by decide +kernel) (by decide +kernel)⟩
abbrev mX6_refusalOfTold : am_Mi := (yX6_refusalOfTold, cX6_refusalOfTold, 3, (some .int))
theorem moX6_refusalOfTold : am_ok mX6_refusalOfTold 1 := ⟨am_wd (i := 741) (by decide +kernel) (by decide +kernel), am_wd (i := 70) (by decide +kernel) (by decide +kernel), ⟨by decide +kernel, by decide +kernel, by decide +kernel⟩, by decide +kernel⟩
theorem mfX6_refusalOfTold : am_mV mX6_refusalOfTold 1 := ⟨moX6_refusalOfTold, am_wd (i := 740) (by decide +kernel) (by decide +kernel), am_wd (i := 28) (by decide +kernel) (by decide +kernel)⟩
