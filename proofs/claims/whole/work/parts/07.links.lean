/-! LINKS: which entry of which class is which method or field (by a program, out of the tables) -/
def kX6_init : Ky_ := (yX6_init, cX6_init, 1, none)
theorem cw_X6_init : Cond.code kX6_init.1 kX6_init.2.1 kX6_init.2.2.1 kX6_init.2.2.2 ∈ TB := TB_mem (List.mem_of_getElem? (i := 76) (by decide +kernel)) rfl
def kX1_init : Ky_ := (yX1_init, cX1_init, 1, none)
theorem cw_X1_init : Cond.code kX1_init.1 kX1_init.2.1 kX1_init.2.2.1 kX1_init.2.2.2 ∈ TB := TB_mem (List.mem_of_getElem? (i := 84) (by decide +kernel)) rfl
def kX5_init : Ky_ := (yX5_init, cX5_init, 1, none)
theorem cw_X5_init : Cond.code kX5_init.1 kX5_init.2.1 kX5_init.2.2.1 kX5_init.2.2.2 ∈ TB := TB_mem (List.mem_of_getElem? (i := 100) (by decide +kernel)) rfl
def kX3_init : Ky_ := (yX3_init, cX3_init, 1, none)
theorem cw_X3_init : Cond.code kX3_init.1 kX3_init.2.1 kX3_init.2.2.1 kX3_init.2.2.2 ∈ TB := TB_mem (List.mem_of_getElem? (i := 132) (by decide +kernel)) rfl
def kX2_init : Ky_ := (yX2_init, cX2_init, 1, none)
theorem cw_X2_init : Cond.code kX2_init.1 kX2_init.2.1 kX2_init.2.2.1 kX2_init.2.2.2 ∈ TB := TB_mem (List.mem_of_getElem? (i := 138) (by decide +kernel)) rfl
def kX0_init : Ky_ := (yX0_init, cX0_init, 1, none)
theorem cw_X0_init : Cond.code kX0_init.1 kX0_init.2.1 kX0_init.2.2.1 kX0_init.2.2.2 ∈ TB := TB_mem (List.mem_of_getElem? (i := 207) (by decide +kernel)) rfl
def kX6_letter : Ky_ := (yX6_letter, cX6_letter, 2, (some .int))
theorem cw_X6_letter : Cond.code kX6_letter.1 kX6_letter.2.1 kX6_letter.2.2.1 kX6_letter.2.2.2 ∈ TB := TB_mem (List.mem_of_getElem? (i := 266) (by decide +kernel)) rfl
def kX1_add : Ky_ := (yX1_add, cX1_add, 2, none)
theorem cw_X1_add : Cond.code kX1_add.1 kX1_add.2.1 kX1_add.2.2.1 kX1_add.2.2.2 ∈ TB := TB_mem (List.mem_of_getElem? (i := 270) (by decide +kernel)) rfl
def kX6_blank : Ky_ := (yX6_blank, cX6_blank, 1, (some .int))
theorem cw_X6_blank : Cond.code kX6_blank.1 kX6_blank.2.1 kX6_blank.2.2.1 kX6_blank.2.2.2 ∈ TB := TB_mem (List.mem_of_getElem? (i := 274) (by decide +kernel)) rfl
def kX1_clear : Ky_ := (yX1_clear, cX1_clear, 2, (some .int))
theorem cw_X1_clear : Cond.code kX1_clear.1 kX1_clear.2.1 kX1_clear.2.2.1 kX1_clear.2.2.2 ∈ TB := TB_mem (List.mem_of_getElem? (i := 278) (by decide +kernel)) rfl
def kX6_fault : Ky_ := (yX6_fault, cX6_fault, 1, (some .int))
theorem cw_X6_fault : Cond.code kX6_fault.1 kX6_fault.2.1 kX6_fault.2.2.1 kX6_fault.2.2.2 ∈ TB := TB_mem (List.mem_of_getElem? (i := 282) (by decide +kernel)) rfl
def kX1_firstFault : Ky_ := (yX1_firstFault, cX1_firstFault, 4, (some .int))
theorem cw_X1_firstFault : Cond.code kX1_firstFault.1 kX1_firstFault.2.1 kX1_firstFault.2.2.1 kX1_firstFault.2.2.2 ∈ TB := TB_mem (List.mem_of_getElem? (i := 286) (by decide +kernel)) rfl
def kX1_markPlace : Ky_ := (yX1_markPlace, cX1_markPlace, 2, (some .int))
theorem cw_X1_markPlace : Cond.code kX1_markPlace.1 kX1_markPlace.2.1 kX1_markPlace.2.2.1 kX1_markPlace.2.2.2 ∈ TB := TB_mem (List.mem_of_getElem? (i := 290) (by decide +kernel)) rfl
def kX1_fitsPails : Ky_ := (yX1_fitsPails, cX1_fitsPails, 3, (some .boolean))
theorem cw_X1_fitsPails : Cond.code kX1_fitsPails.1 kX1_fitsPails.2.1 kX1_fitsPails.2.2.1 kX1_fitsPails.2.2.2 ∈ TB := TB_mem (List.mem_of_getElem? (i := 294) (by decide +kernel)) rfl
def kX1_isDigit : Ky_ := (yX1_isDigit, cX1_isDigit, 5, (some .boolean))
theorem cw_X1_isDigit : Cond.code kX1_isDigit.1 kX1_isDigit.2.1 kX1_isDigit.2.2.1 kX1_isDigit.2.2.2 ∈ TB := TB_mem (List.mem_of_getElem? (i := 298) (by decide +kernel)) rfl
def kX1_digitAt : Ky_ := (yX1_digitAt, cX1_digitAt, 2, (some .int))
theorem cw_X1_digitAt : Cond.code kX1_digitAt.1 kX1_digitAt.2.1 kX1_digitAt.2.2.1 kX1_digitAt.2.2.2 ∈ TB := TB_mem (List.mem_of_getElem? (i := 302) (by decide +kernel)) rfl
def kX1_codeAt : Ky_ := (yX1_codeAt, cX1_codeAt, 2, (some .int))
theorem cw_X1_codeAt : Cond.code kX1_codeAt.1 kX1_codeAt.2.1 kX1_codeAt.2.2.1 kX1_codeAt.2.2.2 ∈ TB := TB_mem (List.mem_of_getElem? (i := 306) (by decide +kernel)) rfl
def kX1_fitsPeople : Ky_ := (yX1_fitsPeople, cX1_fitsPeople, 2, (some .boolean))
theorem cw_X1_fitsPeople : Cond.code kX1_fitsPeople.1 kX1_fitsPeople.2.1 kX1_fitsPeople.2.2.1 kX1_fitsPeople.2.2.2 ∈ TB := TB_mem (List.mem_of_getElem? (i := 310) (by decide +kernel)) rfl
def kJ0_indexOf_0f7a4 : Ky_ := (yJ0_indexOf_0f7a4, cJ0_indexOf_0f7a4, 2, (some .int))
theorem cw_J0_indexOf_0f7a4 : Cond.code kJ0_indexOf_0f7a4.1 kJ0_indexOf_0f7a4.2.1 kJ0_indexOf_0f7a4.2.2.1 kJ0_indexOf_0f7a4.2.2.2 ∈ TB := TB_mem (List.mem_of_getElem? (i := 315) (by decide +kernel)) rfl
def kJ0_indexOf_7cf53 : Ky_ := (yJ0_indexOf_7cf53, cJ0_indexOf_7cf53, 3, (some .int))
theorem cw_J0_indexOf_7cf53 : Cond.code kJ0_indexOf_7cf53.1 kJ0_indexOf_7cf53.2.1 kJ0_indexOf_7cf53.2.2.1 kJ0_indexOf_7cf53.2.2.2 ∈ TB := TB_mem (List.mem_of_getElem? (i := 319) (by decide +kernel)) rfl
def kJ0_isLatin1_aae02 : Ky_ := (yJ0_isLatin1_aae02, cJ0_isLatin1_aae02, 1, (some .boolean))
theorem cw_J0_isLatin1_aae02 : Cond.code kJ0_isLatin1_aae02.1 kJ0_isLatin1_aae02.2.1 kJ0_isLatin1_aae02.2.2.1 kJ0_isLatin1_aae02.2.2.2 ∈ TB := TB_mem (List.mem_of_getElem? (i := 323) (by decide +kernel)) rfl
def kJ0_length_8abf5 : Ky_ := (yJ0_length_8abf5, cJ0_length_8abf5, 1, (some .int))
theorem cw_J0_length_8abf5 : Cond.code kJ0_length_8abf5.1 kJ0_length_8abf5.2.1 kJ0_length_8abf5.2.2.1 kJ0_length_8abf5.2.2.2 ∈ TB := TB_mem (List.mem_of_getElem? (i := 329) (by decide +kernel)) rfl
def kJ0_coder_7d493 : Ky_ := (yJ0_coder_7d493, cJ0_coder_7d493, 1, (some .byte))
theorem cw_J0_coder_7d493 : Cond.code kJ0_coder_7d493.1 kJ0_coder_7d493.2.1 kJ0_coder_7d493.2.2.1 kJ0_coder_7d493.2.2.2 ∈ TB := TB_mem (List.mem_of_getElem? (i := 333) (by decide +kernel)) rfl
def kJ1_indexOf_4cfef : Ky_ := (yJ1_indexOf_4cfef, cJ1_indexOf_4cfef, 4, (some .int))
theorem cw_J1_indexOf_4cfef : Cond.code kJ1_indexOf_4cfef.1 kJ1_indexOf_4cfef.2.1 kJ1_indexOf_4cfef.2.2.1 kJ1_indexOf_4cfef.2.2.2 ∈ TB := TB_mem (List.mem_of_getElem? (i := 336) (by decide +kernel)) rfl
def kJ1_canEncode_9a6ad : Ky_ := (yJ1_canEncode_9a6ad, cJ1_canEncode_9a6ad, 1, (some .boolean))
theorem cw_J1_canEncode_9a6ad : Cond.code kJ1_canEncode_9a6ad.1 kJ1_canEncode_9a6ad.2.1 kJ1_canEncode_9a6ad.2.2.1 kJ1_canEncode_9a6ad.2.2.2 ∈ TB := TB_mem (List.mem_of_getElem? (i := 339) (by decide +kernel)) rfl
def kJ9_max_7cf53 : Ky_ := (yJ9_max_7cf53, cJ9_max_7cf53, 2, (some .int))
theorem cw_J9_max_7cf53 : Cond.code kJ9_max_7cf53.1 kJ9_max_7cf53.2.1 kJ9_max_7cf53.2.2.1 kJ9_max_7cf53.2.2.2 ∈ TB := TB_mem (List.mem_of_getElem? (i := 342) (by decide +kernel)) rfl
def kJ9_min_7cf53 : Ky_ := (yJ9_min_7cf53, cJ9_min_7cf53, 2, (some .int))
theorem cw_J9_min_7cf53 : Cond.code kJ9_min_7cf53.1 kJ9_min_7cf53.2.1 kJ9_min_7cf53.2.2.1 kJ9_min_7cf53.2.2.2 ∈ TB := TB_mem (List.mem_of_getElem? (i := 345) (by decide +kernel)) rfl
def kJ1_indexOfChar_4cfef : Ky_ := (yJ1_indexOfChar_4cfef, cJ1_indexOfChar_4cfef, 6, (some .int))
theorem cw_J1_indexOfChar_4cfef : Cond.code kJ1_indexOfChar_4cfef.1 kJ1_indexOfChar_4cfef.2.1 kJ1_indexOfChar_4cfef.2.2.1 kJ1_indexOfChar_4cfef.2.2.2 ∈ TB := TB_mem (List.mem_of_getElem? (i := 348) (by decide +kernel)) rfl
def kJ2_indexOf_4cfef : Ky_ := (yJ2_indexOf_4cfef, cJ2_indexOf_4cfef, 4, (some .int))
theorem cw_J2_indexOf_4cfef : Cond.code kJ2_indexOf_4cfef.1 kJ2_indexOf_4cfef.2.1 kJ2_indexOf_4cfef.2.2.1 kJ2_indexOf_4cfef.2.2.2 ∈ TB := TB_mem (List.mem_of_getElem? (i := 351) (by decide +kernel)) rfl
def kJ2_indexOfChar_4cfef : Ky_ := (yJ2_indexOfChar_4cfef, cJ2_indexOfChar_4cfef, 4, (some .int))
theorem cw_J2_indexOfChar_4cfef : Cond.code kJ2_indexOfChar_4cfef.1 kJ2_indexOfChar_4cfef.2.1 kJ2_indexOfChar_4cfef.2.2.1 kJ2_indexOfChar_4cfef.2.2.2 ∈ TB := TB_mem (List.mem_of_getElem? (i := 357) (by decide +kernel)) rfl
def kJ2_checkBoundsBeginEnd_d044e : Ky_ := (yJ2_checkBoundsBeginEnd_d044e, cJ2_checkBoundsBeginEnd_d044e, 3, none)
theorem cw_J2_checkBoundsBeginEnd_d044e : Cond.code kJ2_checkBoundsBeginEnd_d044e.1 kJ2_checkBoundsBeginEnd_d044e.2.1 kJ2_checkBoundsBeginEnd_d044e.2.2.1 kJ2_checkBoundsBeginEnd_d044e.2.2.2 ∈ TB := TB_mem (List.mem_of_getElem? (i := 360) (by decide +kernel)) rfl
def kJ2_length_9d52b : Ky_ := (yJ2_length_9d52b, cJ2_length_9d52b, 1, (some .int))
theorem cw_J2_length_9d52b : Cond.code kJ2_length_9d52b.1 kJ2_length_9d52b.2.1 kJ2_length_9d52b.2.2.1 kJ2_length_9d52b.2.2.2 ∈ TB := TB_mem (List.mem_of_getElem? (i := 363) (by decide +kernel)) rfl
def kJ0_checkBoundsBeginEnd_23922 : Ky_ := (yJ0_checkBoundsBeginEnd_23922, cJ0_checkBoundsBeginEnd_23922, 3, none)
theorem cw_J0_checkBoundsBeginEnd_23922 : Cond.code kJ0_checkBoundsBeginEnd_23922.1 kJ0_checkBoundsBeginEnd_23922.2.1 kJ0_checkBoundsBeginEnd_23922.2.2.1 kJ0_checkBoundsBeginEnd_23922.2.2.2 ∈ TB := TB_mem (List.mem_of_getElem? (i := 366) (by decide +kernel)) rfl
def kJ3_checkFromToIndex_8c36e : Ky_ := (yJ3_checkFromToIndex_8c36e, cJ3_checkFromToIndex_8c36e, 4, (some .int))
theorem cw_J3_checkFromToIndex_8c36e : Cond.code kJ3_checkFromToIndex_8c36e.1 kJ3_checkFromToIndex_8c36e.2.1 kJ3_checkFromToIndex_8c36e.2.2.1 kJ3_checkFromToIndex_8c36e.2.2.2 ∈ TB := TB_mem (List.mem_of_getElem? (i := 371) (by decide +kernel)) rfl
def kJ2_indexOfCharUnsafe_4cfef : Ky_ := (yJ2_indexOfCharUnsafe_4cfef, cJ2_indexOfCharUnsafe_4cfef, 5, (some .int))
theorem cw_J2_indexOfCharUnsafe_4cfef : Cond.code kJ2_indexOfCharUnsafe_4cfef.1 kJ2_indexOfCharUnsafe_4cfef.2.1 kJ2_indexOfCharUnsafe_4cfef.2.2.1 kJ2_indexOfCharUnsafe_4cfef.2.2.2 ∈ TB := TB_mem (List.mem_of_getElem? (i := 374) (by decide +kernel)) rfl
def kJ2_getChar_3b067 : Ky_ := (yJ2_getChar_3b067, cJ2_getChar_3b067, 2, (some .char))
theorem cw_J2_getChar_3b067 : Cond.code kJ2_getChar_3b067.1 kJ2_getChar_3b067.2.1 kJ2_getChar_3b067.2.2.1 kJ2_getChar_3b067.2.2.2 ∈ TB := TB_mem (List.mem_of_getElem? (i := 377) (by decide +kernel)) rfl
def kJ2_indexOfSupplementary_4cfef : Ky_ := (yJ2_indexOfSupplementary_4cfef, cJ2_indexOfSupplementary_4cfef, 7, (some .int))
theorem cw_J2_indexOfSupplementary_4cfef : Cond.code kJ2_indexOfSupplementary_4cfef.1 kJ2_indexOfSupplementary_4cfef.2.1 kJ2_indexOfSupplementary_4cfef.2.2.1 kJ2_indexOfSupplementary_4cfef.2.2.2 ∈ TB := TB_mem (List.mem_of_getElem? (i := 386) (by decide +kernel)) rfl
def kJ11_isValidCodePoint_9a6ad : Ky_ := (yJ11_isValidCodePoint_9a6ad, cJ11_isValidCodePoint_9a6ad, 2, (some .boolean))
theorem cw_J11_isValidCodePoint_9a6ad : Cond.code kJ11_isValidCodePoint_9a6ad.1 kJ11_isValidCodePoint_9a6ad.2.1 kJ11_isValidCodePoint_9a6ad.2.2.1 kJ11_isValidCodePoint_9a6ad.2.2.2 ∈ TB := TB_mem (List.mem_of_getElem? (i := 389) (by decide +kernel)) rfl
def kJ11_highSurrogate_5068e : Ky_ := (yJ11_highSurrogate_5068e, cJ11_highSurrogate_5068e, 1, (some .char))
theorem cw_J11_highSurrogate_5068e : Cond.code kJ11_highSurrogate_5068e.1 kJ11_highSurrogate_5068e.2.1 kJ11_highSurrogate_5068e.2.2.1 kJ11_highSurrogate_5068e.2.2.2 ∈ TB := TB_mem (List.mem_of_getElem? (i := 392) (by decide +kernel)) rfl
def kJ11_lowSurrogate_5068e : Ky_ := (yJ11_lowSurrogate_5068e, cJ11_lowSurrogate_5068e, 1, (some .char))
theorem cw_J11_lowSurrogate_5068e : Cond.code kJ11_lowSurrogate_5068e.1 kJ11_lowSurrogate_5068e.2.1 kJ11_lowSurrogate_5068e.2.2.1 kJ11_lowSurrogate_5068e.2.2.2 ∈ TB := TB_mem (List.mem_of_getElem? (i := 396) (by decide +kernel)) rfl
def kX1_fitsBehindPeople : Ky_ := (yX1_fitsBehindPeople, cX1_fitsBehindPeople, 3, (some .boolean))
theorem cw_X1_fitsBehindPeople : Cond.code kX1_fitsBehindPeople.1 kX1_fitsBehindPeople.2.1 kX1_fitsBehindPeople.2.2.1 kX1_fitsBehindPeople.2.2.2 ∈ TB := TB_mem (List.mem_of_getElem? (i := 401) (by decide +kernel)) rfl
def kX6_valley : Ky_ := (yX6_valley, cX6_valley, 1, (some .int))
theorem cw_X6_valley : Cond.code kX6_valley.1 kX6_valley.2.1 kX6_valley.2.2.1 kX6_valley.2.2.2 ∈ TB := TB_mem (List.mem_of_getElem? (i := 406) (by decide +kernel)) rfl
def kX1_isValley : Ky_ := (yX1_isValley, cX1_isValley, 2, (some .boolean))
theorem cw_X1_isValley : Cond.code kX1_isValley.1 kX1_isValley.2.1 kX1_isValley.2.2.1 kX1_isValley.2.2.2 ∈ TB := TB_mem (List.mem_of_getElem? (i := 410) (by decide +kernel)) rfl
def kX3_clear : Ky_ := (yX3_clear, cX3_clear, 1, none)
theorem cw_X3_clear : Cond.code kX3_clear.1 kX3_clear.2.1 kX3_clear.2.2.1 kX3_clear.2.2.2 ∈ TB := TB_mem (List.mem_of_getElem? (i := 415) (by decide +kernel)) rfl
def kJ7_fill_53178 : Ky_ := (yJ7_fill_53178, cJ7_fill_53178, 4, none)
theorem cw_J7_fill_53178 : Cond.code kJ7_fill_53178.1 kJ7_fill_53178.2.1 kJ7_fill_53178.2.2.1 kJ7_fill_53178.2.2.2 ∈ TB := TB_mem (List.mem_of_getElem? (i := 418) (by decide +kernel)) rfl
def kX5_read : Ky_ := (yX5_read, cX5_read, 7, none)
theorem cw_X5_read : Cond.code kX5_read.1 kX5_read.2.1 kX5_read.2.2.1 kX5_read.2.2.2 ∈ TB := TB_mem (List.mem_of_getElem? (i := 422) (by decide +kernel)) rfl
def kX4_growthFromNone : Ky_ := (yX4_growthFromNone, cX4_growthFromNone, 5, (some .int))
theorem cw_X4_growthFromNone : Cond.code kX4_growthFromNone.1 kX4_growthFromNone.2.1 kX4_growthFromNone.2.2.1 kX4_growthFromNone.2.2.2 ∈ TB := TB_mem (List.mem_of_getElem? (i := 431) (by decide +kernel)) rfl
def kX6_isSlight : Ky_ := (yX6_isSlight, cX6_isSlight, 1, (some .boolean))
theorem cw_X6_isSlight : Cond.code kX6_isSlight.1 kX6_isSlight.2.1 kX6_isSlight.2.2.1 kX6_isSlight.2.2.2 ∈ TB := TB_mem (List.mem_of_getElem? (i := 434) (by decide +kernel)) rfl
def kX4_isOf : Ky_ := (yX4_isOf, cX4_isOf, 2, (some .boolean))
theorem cw_X4_isOf : Cond.code kX4_isOf.1 kX4_isOf.2.1 kX4_isOf.2.2.1 kX4_isOf.2.2.2 ∈ TB := TB_mem (List.mem_of_getElem? (i := 439) (by decide +kernel)) rfl
def kX6_person : Ky_ := (yX6_person, cX6_person, 3, (some .int))
theorem cw_X6_person : Cond.code kX6_person.1 kX6_person.2.1 kX6_person.2.2.1 kX6_person.2.2.2 ∈ TB := TB_mem (List.mem_of_getElem? (i := 443) (by decide +kernel)) rfl
def kX5_hasPerson : Ky_ := (yX5_hasPerson, cX5_hasPerson, 2, (some .boolean))
theorem cw_X5_hasPerson : Cond.code kX5_hasPerson.1 kX5_hasPerson.2.1 kX5_hasPerson.2.2.1 kX5_hasPerson.2.2.2 ∈ TB := TB_mem (List.mem_of_getElem? (i := 447) (by decide +kernel)) rfl
def kX6_isRowPlace : Ky_ := (yX6_isRowPlace, cX6_isRowPlace, 1, (some .boolean))
theorem cw_X6_isRowPlace : Cond.code kX6_isRowPlace.1 kX6_isRowPlace.2.1 kX6_isRowPlace.2.2.1 kX6_isRowPlace.2.2.2 ∈ TB := TB_mem (List.mem_of_getElem? (i := 450) (by decide +kernel)) rfl
def kX5_growth : Ky_ := (yX5_growth, cX5_growth, 3, (some .int))
theorem cw_X5_growth : Cond.code kX5_growth.1 kX5_growth.2.1 kX5_growth.2.2.1 kX5_growth.2.2.2 ∈ TB := TB_mem (List.mem_of_getElem? (i := 454) (by decide +kernel)) rfl
def kX5_hasSlight : Ky_ := (yX5_hasSlight, cX5_hasSlight, 2, (some .boolean))
theorem cw_X5_hasSlight : Cond.code kX5_hasSlight.1 kX5_hasSlight.2.1 kX5_hasSlight.2.2.1 kX5_hasSlight.2.2.2 ∈ TB := TB_mem (List.mem_of_getElem? (i := 458) (by decide +kernel)) rfl
def kX0_findSeat : Ky_ := (yX0_findSeat, cX0_findSeat, 7, (some .int))
theorem cw_X0_findSeat : Cond.code kX0_findSeat.1 kX0_findSeat.2.1 kX0_findSeat.2.2.1 kX0_findSeat.2.2.2 ∈ TB := TB_mem (List.mem_of_getElem? (i := 462) (by decide +kernel)) rfl
def kX3_copyForcesFrom : Ky_ := (yX3_copyForcesFrom, cX3_copyForcesFrom, 2, none)
theorem cw_X3_copyForcesFrom : Cond.code kX3_copyForcesFrom.1 kX3_copyForcesFrom.2.1 kX3_copyForcesFrom.2.2.1 kX3_copyForcesFrom.2.2.2 ∈ TB := TB_mem (List.mem_of_getElem? (i := 467) (by decide +kernel)) rfl
def kX5_allThatWouldSet : Ky_ := (yX5_allThatWouldSet, cX5_allThatWouldSet, 4, (some .int))
theorem cw_X5_allThatWouldSet : Cond.code kX5_allThatWouldSet.1 kX5_allThatWouldSet.2.1 kX5_allThatWouldSet.2.2.1 kX5_allThatWouldSet.2.2.2 ∈ TB := TB_mem (List.mem_of_getElem? (i := 474) (by decide +kernel)) rfl
def kX3_forceAt : Ky_ := (yX3_forceAt, cX3_forceAt, 4, (some .int))
theorem cw_X3_forceAt : Cond.code kX3_forceAt.1 kX3_forceAt.2.1 kX3_forceAt.2.2.1 kX3_forceAt.2.2.2 ∈ TB := TB_mem (List.mem_of_getElem? (i := 478) (by decide +kernel)) rfl
def kX3_reach : Ky_ := (yX3_reach, cX3_reach, 4, (some .int))
theorem cw_X3_reach : Cond.code kX3_reach.1 kX3_reach.2.1 kX3_reach.2.2.1 kX3_reach.2.2.2 ∈ TB := TB_mem (List.mem_of_getElem? (i := 481) (by decide +kernel)) rfl
def kJ6_bitCount_0f7a4 : Ky_ := (yJ6_bitCount_0f7a4, cJ6_bitCount_0f7a4, 1, (some .int))
theorem cw_J6_bitCount_0f7a4 : Cond.code kJ6_bitCount_0f7a4.1 kJ6_bitCount_0f7a4.2.1 kJ6_bitCount_0f7a4.2.2.1 kJ6_bitCount_0f7a4.2.2.2 ∈ TB := TB_mem (List.mem_of_getElem? (i := 484) (by decide +kernel)) rfl
def kX2_prides : Ky_ := (yX2_prides, cX2_prides, 5, (some .int))
theorem cw_X2_prides : Cond.code kX2_prides.1 kX2_prides.2.1 kX2_prides.2.2.1 kX2_prides.2.2.2 ∈ TB := TB_mem (List.mem_of_getElem? (i := 491) (by decide +kernel)) rfl
def kX2_allowsPride : Ky_ := (yX2_allowsPride, cX2_allowsPride, 5, (some .boolean))
theorem cw_X2_allowsPride : Cond.code kX2_allowsPride.1 kX2_allowsPride.2.1 kX2_allowsPride.2.2.1 kX2_allowsPride.2.2.2 ∈ TB := TB_mem (List.mem_of_getElem? (i := 495) (by decide +kernel)) rfl
def kX4_bestTry : Ky_ := (yX4_bestTry, cX4_bestTry, 6, (some .int))
theorem cw_X4_bestTry : Cond.code kX4_bestTry.1 kX4_bestTry.2.1 kX4_bestTry.2.2.1 kX4_bestTry.2.2.2 ∈ TB := TB_mem (List.mem_of_getElem? (i := 499) (by decide +kernel)) rfl
def kX4_mostLeft : Ky_ := (yX4_mostLeft, cX4_mostLeft, 6, (some .int))
theorem cw_X4_mostLeft : Cond.code kX4_mostLeft.1 kX4_mostLeft.2.1 kX4_mostLeft.2.2.1 kX4_mostLeft.2.2.2 ∈ TB := TB_mem (List.mem_of_getElem? (i := 502) (by decide +kernel)) rfl
def kX4_hasPride : Ky_ := (yX4_hasPride, cX4_hasPride, 2, (some .boolean))
theorem cw_X4_hasPride : Cond.code kX4_hasPride.1 kX4_hasPride.2.1 kX4_hasPride.2.2.1 kX4_hasPride.2.2.2 ∈ TB := TB_mem (List.mem_of_getElem? (i := 505) (by decide +kernel)) rfl
def kX4_likeOnes : Ky_ := (yX4_likeOnes, cX4_likeOnes, 6, (some .int))
theorem cw_X4_likeOnes : Cond.code kX4_likeOnes.1 kX4_likeOnes.2.1 kX4_likeOnes.2.2.1 kX4_likeOnes.2.2.2 ∈ TB := TB_mem (List.mem_of_getElem? (i := 509) (by decide +kernel)) rfl
def kX6_as : Ky_ := (yX6_as, cX6_as, 3, (some .int))
theorem cw_X6_as : Cond.code kX6_as.1 kX6_as.2.1 kX6_as.2.2.1 kX6_as.2.2.2 ∈ TB := TB_mem (List.mem_of_getElem? (i := 514) (by decide +kernel)) rfl
def kX6_pail : Ky_ := (yX6_pail, cX6_pail, 3, (some .int))
theorem cw_X6_pail : Cond.code kX6_pail.1 kX6_pail.2.1 kX6_pail.2.2.1 kX6_pail.2.2.2 ∈ TB := TB_mem (List.mem_of_getElem? (i := 519) (by decide +kernel)) rfl
def kX5_hasPail : Ky_ := (yX5_hasPail, cX5_hasPail, 2, (some .boolean))
theorem cw_X5_hasPail : Cond.code kX5_hasPail.1 kX5_hasPail.2.1 kX5_hasPail.2.2.1 kX5_hasPail.2.2.2 ∈ TB := TB_mem (List.mem_of_getElem? (i := 523) (by decide +kernel)) rfl
def kX3_isSet : Ky_ := (yX3_isSet, cX3_isSet, 2, (some .boolean))
theorem cw_X3_isSet : Cond.code kX3_isSet.1 kX3_isSet.2.1 kX3_isSet.2.2.1 kX3_isSet.2.2.2 ∈ TB := TB_mem (List.mem_of_getElem? (i := 528) (by decide +kernel)) rfl
def kX5_wouldSet : Ky_ := (yX5_wouldSet, cX5_wouldSet, 3, (some .boolean))
theorem cw_X5_wouldSet : Cond.code kX5_wouldSet.1 kX5_wouldSet.2.1 kX5_wouldSet.2.2.1 kX5_wouldSet.2.2.2 ∈ TB := TB_mem (List.mem_of_getElem? (i := 532) (by decide +kernel)) rfl
def kX6_bottlesFor : Ky_ := (yX6_bottlesFor, cX6_bottlesFor, 3, (some .int))
theorem cw_X6_bottlesFor : Cond.code kX6_bottlesFor.1 kX6_bottlesFor.2.1 kX6_bottlesFor.2.2.1 kX6_bottlesFor.2.2.2 ∈ TB := TB_mem (List.mem_of_getElem? (i := 537) (by decide +kernel)) rfl
def kX3_bottlesWorth : Ky_ := (yX3_bottlesWorth, cX3_bottlesWorth, 8, (some .int))
theorem cw_X3_bottlesWorth : Cond.code kX3_bottlesWorth.1 kX3_bottlesWorth.2.1 kX3_bottlesWorth.2.2.1 kX3_bottlesWorth.2.2.2 ∈ TB := TB_mem (List.mem_of_getElem? (i := 541) (by decide +kernel)) rfl
def kX3_fullBottles : Ky_ := (yX3_fullBottles, cX3_fullBottles, 3, (some .int))
theorem cw_X3_fullBottles : Cond.code kX3_fullBottles.1 kX3_fullBottles.2.1 kX3_fullBottles.2.2.1 kX3_fullBottles.2.2.2 ∈ TB := TB_mem (List.mem_of_getElem? (i := 545) (by decide +kernel)) rfl
def kX3_heldIn : Ky_ := (yX3_heldIn, cX3_heldIn, 4, (some .int))
theorem cw_X3_heldIn : Cond.code kX3_heldIn.1 kX3_heldIn.2.1 kX3_heldIn.2.2.1 kX3_heldIn.2.2.2 ∈ TB := TB_mem (List.mem_of_getElem? (i := 549) (by decide +kernel)) rfl
def kX6_odds : Ky_ := (yX6_odds, cX6_odds, 6, (some .int))
theorem cw_X6_odds : Cond.code kX6_odds.1 kX6_odds.2.1 kX6_odds.2.2.1 kX6_odds.2.2.2 ∈ TB := TB_mem (List.mem_of_getElem? (i := 554) (by decide +kernel)) rfl
def kX0_slightsThatSet : Ky_ := (yX0_slightsThatSet, cX0_slightsThatSet, 6, (some .int))
theorem cw_X0_slightsThatSet : Cond.code kX0_slightsThatSet.1 kX0_slightsThatSet.2.1 kX0_slightsThatSet.2.2.1 kX0_slightsThatSet.2.2.2 ∈ TB := TB_mem (List.mem_of_getElem? (i := 558) (by decide +kernel)) rfl
def kX5_slightNumbers : Ky_ := (yX5_slightNumbers, cX5_slightNumbers, 1, (some .int))
theorem cw_X5_slightNumbers : Cond.code kX5_slightNumbers.1 kX5_slightNumbers.2.1 kX5_slightNumbers.2.2.1 kX5_slightNumbers.2.2.2 ∈ TB := TB_mem (List.mem_of_getElem? (i := 562) (by decide +kernel)) rfl
def kX0_trySlight : Ky_ := (yX0_trySlight, cX0_trySlight, 4, none)
theorem cw_X0_trySlight : Cond.code kX0_trySlight.1 kX0_trySlight.2.1 kX0_trySlight.2.2.1 kX0_trySlight.2.2.2 ∈ TB := TB_mem (List.mem_of_getElem? (i := 566) (by decide +kernel)) rfl
def kX5_offend : Ky_ := (yX5_offend, cX5_offend, 4, none)
theorem cw_X5_offend : Cond.code kX5_offend.1 kX5_offend.2.1 kX5_offend.2.2.1 kX5_offend.2.2.2 ∈ TB := TB_mem (List.mem_of_getElem? (i := 570) (by decide +kernel)) rfl
def kX6_commonDivisor : Ky_ := (yX6_commonDivisor, cX6_commonDivisor, 6, (some .int))
theorem cw_X6_commonDivisor : Cond.code kX6_commonDivisor.1 kX6_commonDivisor.2.1 kX6_commonDivisor.2.2.1 kX6_commonDivisor.2.2.2 ∈ TB := TB_mem (List.mem_of_getElem? (i := 575) (by decide +kernel)) rfl
def kX6_slight : Ky_ := (yX6_slight, cX6_slight, 3, (some .int))
theorem cw_X6_slight : Cond.code kX6_slight.1 kX6_slight.2.1 kX6_slight.2.2.1 kX6_slight.2.2.2 ∈ TB := TB_mem (List.mem_of_getElem? (i := 579) (by decide +kernel)) rfl
def kX6_soothe : Ky_ := (yX6_soothe, cX6_soothe, 3, (some .int))
theorem cw_X6_soothe : Cond.code kX6_soothe.1 kX6_soothe.2.1 kX6_soothe.2.2.1 kX6_soothe.2.2.2 ∈ TB := TB_mem (List.mem_of_getElem? (i := 585) (by decide +kernel)) rfl
def kX6_sit : Ky_ := (yX6_sit, cX6_sit, 4, (some .int))
theorem cw_X6_sit : Cond.code kX6_sit.1 kX6_sit.2.1 kX6_sit.2.2.1 kX6_sit.2.2.2 ∈ TB := TB_mem (List.mem_of_getElem? (i := 589) (by decide +kernel)) rfl
def kX6_isPlace : Ky_ := (yX6_isPlace, cX6_isPlace, 1, (some .boolean))
theorem cw_X6_isPlace : Cond.code kX6_isPlace.1 kX6_isPlace.2.1 kX6_isPlace.2.2.1 kX6_isPlace.2.2.2 ∈ TB := TB_mem (List.mem_of_getElem? (i := 592) (by decide +kernel)) rfl
def kX6_night : Ky_ := (yX6_night, cX6_night, 1, (some .int))
theorem cw_X6_night : Cond.code kX6_night.1 kX6_night.2.1 kX6_night.2.2.1 kX6_night.2.2.2 ∈ TB := TB_mem (List.mem_of_getElem? (i := 596) (by decide +kernel)) rfl
def kX5_isThere : Ky_ := (yX5_isThere, cX5_isThere, 1, (some .boolean))
theorem cw_X5_isThere : Cond.code kX5_isThere.1 kX5_isThere.2.1 kX5_isThere.2.2.1 kX5_isThere.2.2.2 ∈ TB := TB_mem (List.mem_of_getElem? (i := 600) (by decide +kernel)) rfl
def kX5_passNight : Ky_ := (yX5_passNight, cX5_passNight, 3, none)
theorem cw_X5_passNight : Cond.code kX5_passNight.1 kX5_passNight.2.1 kX5_passNight.2.2.1 kX5_passNight.2.2.2 ∈ TB := TB_mem (List.mem_of_getElem? (i := 604) (by decide +kernel)) rfl
def kX4_overnight : Ky_ := (yX4_overnight, cX4_overnight, 2, (some .int))
theorem cw_X4_overnight : Cond.code kX4_overnight.1 kX4_overnight.2.1 kX4_overnight.2.2.1 kX4_overnight.2.2.2 ∈ TB := TB_mem (List.mem_of_getElem? (i := 607) (by decide +kernel)) rfl
def kX6_curdle : Ky_ := (yX6_curdle, cX6_curdle, 3, (some .int))
theorem cw_X6_curdle : Cond.code kX6_curdle.1 kX6_curdle.2.1 kX6_curdle.2.2.1 kX6_curdle.2.2.2 ∈ TB := TB_mem (List.mem_of_getElem? (i := 611) (by decide +kernel)) rfl
def kX6_fresh : Ky_ := (yX6_fresh, cX6_fresh, 3, (some .int))
theorem cw_X6_fresh : Cond.code kX6_fresh.1 kX6_fresh.2.1 kX6_fresh.2.2.1 kX6_fresh.2.2.2 ∈ TB := TB_mem (List.mem_of_getElem? (i := 617) (by decide +kernel)) rfl
def kX6_force : Ky_ := (yX6_force, cX6_force, 2, (some .int))
theorem cw_X6_force : Cond.code kX6_force.1 kX6_force.2.1 kX6_force.2.2.1 kX6_force.2.2.2 ∈ TB := TB_mem (List.mem_of_getElem? (i := 621) (by decide +kernel)) rfl
def kX6_keep : Ky_ := (yX6_keep, cX6_keep, 3, (some .int))
theorem cw_X6_keep : Cond.code kX6_keep.1 kX6_keep.2.1 kX6_keep.2.2.1 kX6_keep.2.2.2 ∈ TB := TB_mem (List.mem_of_getElem? (i := 625) (by decide +kernel)) rfl
def kX6_hasBottle : Ky_ := (yX6_hasBottle, cX6_hasBottle, 2, (some .boolean))
theorem cw_X6_hasBottle : Cond.code kX6_hasBottle.1 kX6_hasBottle.2.1 kX6_hasBottle.2.2.1 kX6_hasBottle.2.2.2 ∈ TB := TB_mem (List.mem_of_getElem? (i := 629) (by decide +kernel)) rfl
def kX6_pour : Ky_ := (yX6_pour, cX6_pour, 4, (some .int))
theorem cw_X6_pour : Cond.code kX6_pour.1 kX6_pour.2.1 kX6_pour.2.2.1 kX6_pour.2.2.2 ∈ TB := TB_mem (List.mem_of_getElem? (i := 633) (by decide +kernel)) rfl
def kX3_addDrop : Ky_ := (yX3_addDrop, cX3_addDrop, 3, none)
theorem cw_X3_addDrop : Cond.code kX3_addDrop.1 kX3_addDrop.2.1 kX3_addDrop.2.2.1 kX3_addDrop.2.2.2 ∈ TB := TB_mem (List.mem_of_getElem? (i := 637) (by decide +kernel)) rfl
def kX6_bottle : Ky_ := (yX6_bottle, cX6_bottle, 2, (some .int))
theorem cw_X6_bottle : Cond.code kX6_bottle.1 kX6_bottle.2.1 kX6_bottle.2.2.1 kX6_bottle.2.2.2 ∈ TB := TB_mem (List.mem_of_getElem? (i := 641) (by decide +kernel)) rfl
def kX6_would : Ky_ := (yX6_would, cX6_would, 1, (some .int))
theorem cw_X6_would : Cond.code kX6_would.1 kX6_would.2.1 kX6_would.2.2.1 kX6_would.2.2.2 ∈ TB := TB_mem (List.mem_of_getElem? (i := 645) (by decide +kernel)) rfl
def kX6_few : Ky_ := (yX6_few, cX6_few, 3, (some .int))
theorem cw_X6_few : Cond.code kX6_few.1 kX6_few.2.1 kX6_few.2.2.1 kX6_few.2.2.2 ∈ TB := TB_mem (List.mem_of_getElem? (i := 649) (by decide +kernel)) rfl
def kX5_arePails : Ky_ := (yX5_arePails, cX5_arePails, 2, (some .boolean))
theorem cw_X5_arePails : Cond.code kX5_arePails.1 kX5_arePails.2.1 kX5_arePails.2.2.1 kX5_arePails.2.2.2 ∈ TB := TB_mem (List.mem_of_getElem? (i := 653) (by decide +kernel)) rfl
def kX6_isRowTell : Ky_ := (yX6_isRowTell, cX6_isRowTell, 1, (some .boolean))
theorem cw_X6_isRowTell : Cond.code kX6_isRowTell.1 kX6_isRowTell.2.1 kX6_isRowTell.2.2.1 kX6_isRowTell.2.2.2 ∈ TB := TB_mem (List.mem_of_getElem? (i := 656) (by decide +kernel)) rfl
def kX0_findFew : Ky_ := (yX0_findFew, cX0_findFew, 5, none)
theorem cw_X0_findFew : Cond.code kX0_findFew.1 kX0_findFew.2.1 kX0_findFew.2.2.1 kX0_findFew.2.2.2 ∈ TB := TB_mem (List.mem_of_getElem? (i := 660) (by decide +kernel)) rfl
def kX0_rowSets : Ky_ := (yX0_rowSets, cX0_rowSets, 10, (some .boolean))
theorem cw_X0_rowSets : Cond.code kX0_rowSets.1 kX0_rowSets.2.1 kX0_rowSets.2.2.1 kX0_rowSets.2.2.2 ∈ TB := TB_mem (List.mem_of_getElem? (i := 664) (by decide +kernel)) rfl
def kX0_tell : Ky_ := (yX0_tell, cX0_tell, 4, (some .int))
theorem cw_X0_tell : Cond.code kX0_tell.1 kX0_tell.2.1 kX0_tell.2.2.1 kX0_tell.2.2.2 ∈ TB := TB_mem (List.mem_of_getElem? (i := 669) (by decide +kernel)) rfl
def kX6_week : Ky_ := (yX6_week, cX6_week, 3, (some .int))
theorem cw_X6_week : Cond.code kX6_week.1 kX6_week.2.1 kX6_week.2.2.1 kX6_week.2.2.2 ∈ TB := TB_mem (List.mem_of_getElem? (i := 673) (by decide +kernel)) rfl
def kX0_findWeek : Ky_ := (yX0_findWeek, cX0_findWeek, 4, none)
theorem cw_X0_findWeek : Cond.code kX0_findWeek.1 kX0_findWeek.2.1 kX0_findWeek.2.2.1 kX0_findWeek.2.2.2 ∈ TB := TB_mem (List.mem_of_getElem? (i := 677) (by decide +kernel)) rfl
def kX0_tryDay : Ky_ := (yX0_tryDay, cX0_tryDay, 8, none)
theorem cw_X0_tryDay : Cond.code kX0_tryDay.1 kX0_tryDay.2.1 kX0_tryDay.2.2.1 kX0_tryDay.2.2.2 ∈ TB := TB_mem (List.mem_of_getElem? (i := 681) (by decide +kernel)) rfl
def kX6_who : Ky_ := (yX6_who, cX6_who, 2, (some .int))
theorem cw_X6_who : Cond.code kX6_who.1 kX6_who.2.1 kX6_who.2.2.1 kX6_who.2.2.2 ∈ TB := TB_mem (List.mem_of_getElem? (i := 686) (by decide +kernel)) rfl
def kX0_slightsThatSetJust : Ky_ := (yX0_slightsThatSetJust, cX0_slightsThatSetJust, 6, (some .int))
theorem cw_X0_slightsThatSetJust : Cond.code kX0_slightsThatSetJust.1 kX0_slightsThatSetJust.2.1 kX0_slightsThatSetJust.2.2.1 kX0_slightsThatSetJust.2.2.2 ∈ TB := TB_mem (List.mem_of_getElem? (i := 690) (by decide +kernel)) rfl
def kX6_see : Ky_ := (yX6_see, cX6_see, 4, (some .int))
theorem cw_X6_see : Cond.code kX6_see.1 kX6_see.2.1 kX6_see.2.2.1 kX6_see.2.2.2 ∈ TB := TB_mem (List.mem_of_getElem? (i := 694) (by decide +kernel)) rfl
def kX2_add : Ky_ := (yX2_add, cX2_add, 4, none)
theorem cw_X2_add : Cond.code kX2_add.1 kX2_add.2.1 kX2_add.2.2.1 kX2_add.2.2.2 ∈ TB := TB_mem (List.mem_of_getElem? (i := 698) (by decide +kernel)) rfl
def kX6_forget : Ky_ := (yX6_forget, cX6_forget, 2, (some .int))
theorem cw_X6_forget : Cond.code kX6_forget.1 kX6_forget.2.1 kX6_forget.2.2.1 kX6_forget.2.2.2 ∈ TB := TB_mem (List.mem_of_getElem? (i := 702) (by decide +kernel)) rfl
def kX6_weeks : Ky_ := (yX6_weeks, cX6_weeks, 4, (some .int))
theorem cw_X6_weeks : Cond.code kX6_weeks.1 kX6_weeks.2.1 kX6_weeks.2.2.1 kX6_weeks.2.2.2 ∈ TB := TB_mem (List.mem_of_getElem? (i := 706) (by decide +kernel)) rfl
def kX0_runWeeks : Ky_ := (yX0_runWeeks, cX0_runWeeks, 8, none)
theorem cw_X0_runWeeks : Cond.code kX0_runWeeks.1 kX0_runWeeks.2.1 kX0_runWeeks.2.2.1 kX0_runWeeks.2.2.2 ∈ TB := TB_mem (List.mem_of_getElem? (i := 710) (by decide +kernel)) rfl
def kX0_draw : Ky_ := (yX0_draw, cX0_draw, 2, (some .int))
theorem cw_X0_draw : Cond.code kX0_draw.1 kX0_draw.2.1 kX0_draw.2.2.1 kX0_draw.2.2.2 ∈ TB := TB_mem (List.mem_of_getElem? (i := 714) (by decide +kernel)) rfl
def kX3_allGrudges : Ky_ := (yX3_allGrudges, cX3_allGrudges, 1, (some .int))
theorem cw_X3_allGrudges : Cond.code kX3_allGrudges.1 kX3_allGrudges.2.1 kX3_allGrudges.2.2.1 kX3_allGrudges.2.2.2 ∈ TB := TB_mem (List.mem_of_getElem? (i := 722) (by decide +kernel)) rfl
def kX3_sumOf : Ky_ := (yX3_sumOf, cX3_sumOf, 6, (some .int))
theorem cw_X3_sumOf : Cond.code kX3_sumOf.1 kX3_sumOf.2.1 kX3_sumOf.2.2.1 kX3_sumOf.2.2.2 ∈ TB := TB_mem (List.mem_of_getElem? (i := 725) (by decide +kernel)) rfl
def kX6_image : Ky_ := (yX6_image, cX6_image, 1, (some .int))
theorem cw_X6_image : Cond.code kX6_image.1 kX6_image.2.1 kX6_image.2.2.1 kX6_image.2.2.2 ∈ TB := TB_mem (List.mem_of_getElem? (i := 729) (by decide +kernel)) rfl
def kX3_copyFrom : Ky_ := (yX3_copyFrom, cX3_copyFrom, 2, none)
theorem cw_X3_copyFrom : Cond.code kX3_copyFrom.1 kX3_copyFrom.2.1 kX3_copyFrom.2.2.1 kX3_copyFrom.2.2.2 ∈ TB := TB_mem (List.mem_of_getElem? (i := 733) (by decide +kernel)) rfl
def kX2_copyFrom : Ky_ := (yX2_copyFrom, cX2_copyFrom, 2, none)
theorem cw_X2_copyFrom : Cond.code kX2_copyFrom.1 kX2_copyFrom.2.1 kX2_copyFrom.2.2.1 kX2_copyFrom.2.2.2 ∈ TB := TB_mem (List.mem_of_getElem? (i := 737) (by decide +kernel)) rfl
def kX6_restore : Ky_ := (yX6_restore, cX6_restore, 1, (some .int))
theorem cw_X6_restore : Cond.code kX6_restore.1 kX6_restore.2.1 kX6_restore.2.2.1 kX6_restore.2.2.2 ∈ TB := TB_mem (List.mem_of_getElem? (i := 743) (by decide +kernel)) rfl
def kX6_count : Ky_ := (yX6_count, cX6_count, 2, (some .int))
theorem cw_X6_count : Cond.code kX6_count.1 kX6_count.2.1 kX6_count.2.2.1 kX6_count.2.2.2 ∈ TB := TB_mem (List.mem_of_getElem? (i := 747) (by decide +kernel)) rfl
def kX3_allSlights : Ky_ := (yX3_allSlights, cX3_allSlights, 1, (some .int))
theorem cw_X3_allSlights : Cond.code kX3_allSlights.1 kX3_allSlights.2.1 kX3_allSlights.2.2.1 kX3_allSlights.2.2.2 ∈ TB := TB_mem (List.mem_of_getElem? (i := 752) (by decide +kernel)) rfl
def kX6_digest : Ky_ := (yX6_digest, cX6_digest, 5, (some .long))
theorem cw_X6_digest : Cond.code kX6_digest.1 kX6_digest.2.1 kX6_digest.2.2.1 kX6_digest.2.2.2 ∈ TB := TB_mem (List.mem_of_getElem? (i := 756) (by decide +kernel)) rfl
def kX7_init : Ky_ := (yX7_init, cX7_init, 1, none)
theorem cw_X7_init : Cond.code kX7_init.1 kX7_init.2.1 kX7_init.2.2.1 kX7_init.2.2.2 ∈ TB := TB_mem (List.mem_of_getElem? (i := 771) (by decide +kernel)) rfl
def kX7_letter : Ky_ := (yX7_letter, cX7_letter, 2, (some .int))
theorem cw_X7_letter : Cond.code kX7_letter.1 kX7_letter.2.1 kX7_letter.2.2.1 kX7_letter.2.2.2 ∈ TB := TB_mem (List.mem_of_getElem? (i := 897) (by decide +kernel)) rfl
def kX7_in : Ky_ := (yX7_in, cX7_in, 6, (some .boolean))
theorem cw_X7_in : Cond.code kX7_in.1 kX7_in.2.1 kX7_in.2.2.1 kX7_in.2.2.2 ∈ TB := TB_mem (List.mem_of_getElem? (i := 901) (by decide +kernel)) rfl
def kX7_blank : Ky_ := (yX7_blank, cX7_blank, 2, (some .int))
theorem cw_X7_blank : Cond.code kX7_blank.1 kX7_blank.2.1 kX7_blank.2.2.1 kX7_blank.2.2.2 ∈ TB := TB_mem (List.mem_of_getElem? (i := 905) (by decide +kernel)) rfl
def kX7_fault : Ky_ := (yX7_fault, cX7_fault, 1, (some .int))
theorem cw_X7_fault : Cond.code kX7_fault.1 kX7_fault.2.1 kX7_fault.2.2.1 kX7_fault.2.2.2 ∈ TB := TB_mem (List.mem_of_getElem? (i := 909) (by decide +kernel)) rfl
def kX7_faultOf : Ky_ := (yX7_faultOf, cX7_faultOf, 2, (some .int))
theorem cw_X7_faultOf : Cond.code kX7_faultOf.1 kX7_faultOf.2.1 kX7_faultOf.2.2.1 kX7_faultOf.2.2.2 ∈ TB := TB_mem (List.mem_of_getElem? (i := 913) (by decide +kernel)) rfl
def kX7_isGood : Ky_ := (yX7_isGood, cX7_isGood, 3, (some .boolean))
theorem cw_X7_isGood : Cond.code kX7_isGood.1 kX7_isGood.2.1 kX7_isGood.2.2.1 kX7_isGood.2.2.2 ∈ TB := TB_mem (List.mem_of_getElem? (i := 917) (by decide +kernel)) rfl
def kX7_isPersonLetter : Ky_ := (yX7_isPersonLetter, cX7_isPersonLetter, 3, (some .boolean))
theorem cw_X7_isPersonLetter : Cond.code kX7_isPersonLetter.1 kX7_isPersonLetter.2.1 kX7_isPersonLetter.2.2.1 kX7_isPersonLetter.2.2.2 ∈ TB := TB_mem (List.mem_of_getElem? (i := 923) (by decide +kernel)) rfl
def kX7_kindBy : Ky_ := (yX7_kindBy, cX7_kindBy, 1, (some .int))
theorem cw_X7_kindBy : Cond.code kX7_kindBy.1 kX7_kindBy.2.1 kX7_kindBy.2.2.1 kX7_kindBy.2.2.2 ∈ TB := TB_mem (List.mem_of_getElem? (i := 926) (by decide +kernel)) rfl
def kX7_valley : Ky_ := (yX7_valley, cX7_valley, 2, (some .int))
theorem cw_X7_valley : Cond.code kX7_valley.1 kX7_valley.2.1 kX7_valley.2.2.1 kX7_valley.2.2.2 ∈ TB := TB_mem (List.mem_of_getElem? (i := 932) (by decide +kernel)) rfl
def kX7_person : Ky_ := (yX7_person, cX7_person, 3, (some .int))
theorem cw_X7_person : Cond.code kX7_person.1 kX7_person.2.1 kX7_person.2.2.1 kX7_person.2.2.2 ∈ TB := TB_mem (List.mem_of_getElem? (i := 936) (by decide +kernel)) rfl
def kX7_isPerson : Ky_ := (yX7_isPerson, cX7_isPerson, 2, (some .boolean))
theorem cw_X7_isPerson : Cond.code kX7_isPerson.1 kX7_isPerson.2.1 kX7_isPerson.2.2.1 kX7_isPerson.2.2.2 ∈ TB := TB_mem (List.mem_of_getElem? (i := 940) (by decide +kernel)) rfl
def kX7_tellPerson : Ky_ := (yX7_tellPerson, cX7_tellPerson, 3, (some .int))
theorem cw_X7_tellPerson : Cond.code kX7_tellPerson.1 kX7_tellPerson.2.1 kX7_tellPerson.2.2.1 kX7_tellPerson.2.2.2 ∈ TB := TB_mem (List.mem_of_getElem? (i := 944) (by decide +kernel)) rfl
def kX7_growsOf : Ky_ := (yX7_growsOf, cX7_growsOf, 4, (some .int))
theorem cw_X7_growsOf : Cond.code kX7_growsOf.1 kX7_growsOf.2.1 kX7_growsOf.2.2.1 kX7_growsOf.2.2.2 ∈ TB := TB_mem (List.mem_of_getElem? (i := 950) (by decide +kernel)) rfl
def kX7_grievedBy : Ky_ := (yX7_grievedBy, cX7_grievedBy, 5, (some .int))
theorem cw_X7_grievedBy : Cond.code kX7_grievedBy.1 kX7_grievedBy.2.1 kX7_grievedBy.2.2.1 kX7_grievedBy.2.2.2 ∈ TB := TB_mem (List.mem_of_getElem? (i := 953) (by decide +kernel)) rfl
def kX7_topped : Ky_ := (yX7_topped, cX7_topped, 1, (some .int))
theorem cw_X7_topped : Cond.code kX7_topped.1 kX7_topped.2.1 kX7_topped.2.2.1 kX7_topped.2.2.2 ∈ TB := TB_mem (List.mem_of_getElem? (i := 956) (by decide +kernel)) rfl
def kX7_seatOf : Ky_ := (yX7_seatOf, cX7_seatOf, 8, (some .int))
theorem cw_X7_seatOf : Cond.code kX7_seatOf.1 kX7_seatOf.2.1 kX7_seatOf.2.2.1 kX7_seatOf.2.2.2 ∈ TB := TB_mem (List.mem_of_getElem? (i := 960) (by decide +kernel)) rfl
def kX7_wouldNow : Ky_ := (yX7_wouldNow, cX7_wouldNow, 1, (some .int))
theorem cw_X7_wouldNow : Cond.code kX7_wouldNow.1 kX7_wouldNow.2.1 kX7_wouldNow.2.2.1 kX7_wouldNow.2.2.2 ∈ TB := TB_mem (List.mem_of_getElem? (i := 964) (by decide +kernel)) rfl
def kX7_wouldOn : Ky_ := (yX7_wouldOn, cX7_wouldOn, 6, (some .int))
theorem cw_X7_wouldOn : Cond.code kX7_wouldOn.1 kX7_wouldOn.2.1 kX7_wouldOn.2.2.1 kX7_wouldOn.2.2.2 ∈ TB := TB_mem (List.mem_of_getElem? (i := 968) (by decide +kernel)) rfl
def kX7_forceOn : Ky_ := (yX7_forceOn, cX7_forceOn, 5, (some .int))
theorem cw_X7_forceOn : Cond.code kX7_forceOn.1 kX7_forceOn.2.1 kX7_forceOn.2.2.1 kX7_forceOn.2.2.2 ∈ TB := TB_mem (List.mem_of_getElem? (i := 972) (by decide +kernel)) rfl
def kX7_apart : Ky_ := (yX7_apart, cX7_apart, 2, (some .int))
theorem cw_X7_apart : Cond.code kX7_apart.1 kX7_apart.2.1 kX7_apart.2.2.1 kX7_apart.2.2.2 ∈ TB := TB_mem (List.mem_of_getElem? (i := 975) (by decide +kernel)) rfl
def kX7_forceBy : Ky_ := (yX7_forceBy, cX7_forceBy, 2, (some .int))
theorem cw_X7_forceBy : Cond.code kX7_forceBy.1 kX7_forceBy.2.1 kX7_forceBy.2.2.1 kX7_forceBy.2.2.2 ∈ TB := TB_mem (List.mem_of_getElem? (i := 978) (by decide +kernel)) rfl
def kX7_dropsAt : Ky_ := (yX7_dropsAt, cX7_dropsAt, 4, (some .int))
theorem cw_X7_dropsAt : Cond.code kX7_dropsAt.1 kX7_dropsAt.2.1 kX7_dropsAt.2.2.1 kX7_dropsAt.2.2.2 ∈ TB := TB_mem (List.mem_of_getElem? (i := 982) (by decide +kernel)) rfl
def kX7_ones : Ky_ := (yX7_ones, cX7_ones, 3, (some .int))
theorem cw_X7_ones : Cond.code kX7_ones.1 kX7_ones.2.1 kX7_ones.2.2.1 kX7_ones.2.2.2 ∈ TB := TB_mem (List.mem_of_getElem? (i := 985) (by decide +kernel)) rfl
def kX7_pridesOf : Ky_ := (yX7_pridesOf, cX7_pridesOf, 6, (some .int))
theorem cw_X7_pridesOf : Cond.code kX7_pridesOf.1 kX7_pridesOf.2.1 kX7_pridesOf.2.2.1 kX7_pridesOf.2.2.2 ∈ TB := TB_mem (List.mem_of_getElem? (i := 989) (by decide +kernel)) rfl
def kX7_tryOf : Ky_ := (yX7_tryOf, cX7_tryOf, 9, (some .int))
theorem cw_X7_tryOf : Cond.code kX7_tryOf.1 kX7_tryOf.2.1 kX7_tryOf.2.2.1 kX7_tryOf.2.2.2 ∈ TB := TB_mem (List.mem_of_getElem? (i := 993) (by decide +kernel)) rfl
def kX7_as : Ky_ := (yX7_as, cX7_as, 5, (some .int))
theorem cw_X7_as : Cond.code kX7_as.1 kX7_as.2.1 kX7_as.2.2.1 kX7_as.2.2.2 ∈ TB := TB_mem (List.mem_of_getElem? (i := 997) (by decide +kernel)) rfl
def kX7_pail : Ky_ := (yX7_pail, cX7_pail, 3, (some .int))
theorem cw_X7_pail : Cond.code kX7_pail.1 kX7_pail.2.1 kX7_pail.2.2.1 kX7_pail.2.2.2 ∈ TB := TB_mem (List.mem_of_getElem? (i := 1002) (by decide +kernel)) rfl
def kX7_isPail : Ky_ := (yX7_isPail, cX7_isPail, 2, (some .boolean))
theorem cw_X7_isPail : Cond.code kX7_isPail.1 kX7_isPail.2.1 kX7_isPail.2.2.1 kX7_isPail.2.2.2 ∈ TB := TB_mem (List.mem_of_getElem? (i := 1006) (by decide +kernel)) rfl
def kX7_tellPail : Ky_ := (yX7_tellPail, cX7_tellPail, 3, (some .int))
theorem cw_X7_tellPail : Cond.code kX7_tellPail.1 kX7_tellPail.2.1 kX7_tellPail.2.2.1 kX7_tellPail.2.2.2 ∈ TB := TB_mem (List.mem_of_getElem? (i := 1010) (by decide +kernel)) rfl
def kX7_forceAt : Ky_ := (yX7_forceAt, cX7_forceAt, 2, (some .int))
theorem cw_X7_forceAt : Cond.code kX7_forceAt.1 kX7_forceAt.2.1 kX7_forceAt.2.2.1 kX7_forceAt.2.2.2 ∈ TB := TB_mem (List.mem_of_getElem? (i := 1014) (by decide +kernel)) rfl
def kX7_pourOf : Ky_ := (yX7_pourOf, cX7_pourOf, 8, (some .int))
theorem cw_X7_pourOf : Cond.code kX7_pourOf.1 kX7_pourOf.2.1 kX7_pourOf.2.2.1 kX7_pourOf.2.2.2 ∈ TB := TB_mem (List.mem_of_getElem? (i := 1018) (by decide +kernel)) rfl
def kX7_isOfFull : Ky_ := (yX7_isOfFull, cX7_isOfFull, 4, (some .boolean))
theorem cw_X7_isOfFull : Cond.code kX7_isOfFull.1 kX7_isOfFull.2.1 kX7_isOfFull.2.2.1 kX7_isOfFull.2.2.2 ∈ TB := TB_mem (List.mem_of_getElem? (i := 1022) (by decide +kernel)) rfl
def kX7_inBottles : Ky_ := (yX7_inBottles, cX7_inBottles, 4, (some .int))
theorem cw_X7_inBottles : Cond.code kX7_inBottles.1 kX7_inBottles.2.1 kX7_inBottles.2.2.1 kX7_inBottles.2.2.2 ∈ TB := TB_mem (List.mem_of_getElem? (i := 1026) (by decide +kernel)) rfl
def kX7_oddsOf : Ky_ := (yX7_oddsOf, cX7_oddsOf, 5, (some .int))
theorem cw_X7_oddsOf : Cond.code kX7_oddsOf.1 kX7_oddsOf.2.1 kX7_oddsOf.2.2.1 kX7_oddsOf.2.2.2 ∈ TB := TB_mem (List.mem_of_getElem? (i := 1030) (by decide +kernel)) rfl
def kX7_oddsUp : Ky_ := (yX7_oddsUp, cX7_oddsUp, 4, (some .int))
theorem cw_X7_oddsUp : Cond.code kX7_oddsUp.1 kX7_oddsUp.2.1 kX7_oddsUp.2.2.1 kX7_oddsUp.2.2.2 ∈ TB := TB_mem (List.mem_of_getElem? (i := 1034) (by decide +kernel)) rfl
def kX7_copy : Ky_ := (yX7_copy, cX7_copy, 3, none)
theorem cw_X7_copy : Cond.code kX7_copy.1 kX7_copy.2.1 kX7_copy.2.2.1 kX7_copy.2.2.2 ∈ TB := TB_mem (List.mem_of_getElem? (i := 1037) (by decide +kernel)) rfl
def kX7_slightOn : Ky_ := (yX7_slightOn, cX7_slightOn, 4, none)
theorem cw_X7_slightOn : Cond.code kX7_slightOn.1 kX7_slightOn.2.1 kX7_slightOn.2.2.1 kX7_slightOn.2.2.2 ∈ TB := TB_mem (List.mem_of_getElem? (i := 1041) (by decide +kernel)) rfl
def kX7_common : Ky_ := (yX7_common, cX7_common, 5, (some .int))
theorem cw_X7_common : Cond.code kX7_common.1 kX7_common.2.1 kX7_common.2.2.1 kX7_common.2.2.2 ∈ TB := TB_mem (List.mem_of_getElem? (i := 1044) (by decide +kernel)) rfl
def kX7_slight : Ky_ := (yX7_slight, cX7_slight, 3, (some .int))
theorem cw_X7_slight : Cond.code kX7_slight.1 kX7_slight.2.1 kX7_slight.2.2.1 kX7_slight.2.2.2 ∈ TB := TB_mem (List.mem_of_getElem? (i := 1048) (by decide +kernel)) rfl
def kX7_soothe : Ky_ := (yX7_soothe, cX7_soothe, 3, (some .int))
theorem cw_X7_soothe : Cond.code kX7_soothe.1 kX7_soothe.2.1 kX7_soothe.2.2.1 kX7_soothe.2.2.2 ∈ TB := TB_mem (List.mem_of_getElem? (i := 1053) (by decide +kernel)) rfl
def kX7_sit : Ky_ := (yX7_sit, cX7_sit, 4, (some .int))
theorem cw_X7_sit : Cond.code kX7_sit.1 kX7_sit.2.1 kX7_sit.2.2.1 kX7_sit.2.2.2 ∈ TB := TB_mem (List.mem_of_getElem? (i := 1057) (by decide +kernel)) rfl
def kX7_isPlace : Ky_ := (yX7_isPlace, cX7_isPlace, 2, (some .boolean))
theorem cw_X7_isPlace : Cond.code kX7_isPlace.1 kX7_isPlace.2.1 kX7_isPlace.2.2.1 kX7_isPlace.2.2.2 ∈ TB := TB_mem (List.mem_of_getElem? (i := 1061) (by decide +kernel)) rfl
def kX7_lacks : Ky_ := (yX7_lacks, cX7_lacks, 1, (some .boolean))
theorem cw_X7_lacks : Cond.code kX7_lacks.1 kX7_lacks.2.1 kX7_lacks.2.2.1 kX7_lacks.2.2.2 ∈ TB := TB_mem (List.mem_of_getElem? (i := 1065) (by decide +kernel)) rfl
def kX7_night : Ky_ := (yX7_night, cX7_night, 1, (some .int))
theorem cw_X7_night : Cond.code kX7_night.1 kX7_night.2.1 kX7_night.2.2.1 kX7_night.2.2.2 ∈ TB := TB_mem (List.mem_of_getElem? (i := 1070) (by decide +kernel)) rfl
def kX7_nightOn : Ky_ := (yX7_nightOn, cX7_nightOn, 5, none)
theorem cw_X7_nightOn : Cond.code kX7_nightOn.1 kX7_nightOn.2.1 kX7_nightOn.2.2.1 kX7_nightOn.2.2.2 ∈ TB := TB_mem (List.mem_of_getElem? (i := 1074) (by decide +kernel)) rfl
def kX7_curdle : Ky_ := (yX7_curdle, cX7_curdle, 4, (some .int))
theorem cw_X7_curdle : Cond.code kX7_curdle.1 kX7_curdle.2.1 kX7_curdle.2.2.1 kX7_curdle.2.2.2 ∈ TB := TB_mem (List.mem_of_getElem? (i := 1078) (by decide +kernel)) rfl
def kX7_fresh : Ky_ := (yX7_fresh, cX7_fresh, 3, (some .int))
theorem cw_X7_fresh : Cond.code kX7_fresh.1 kX7_fresh.2.1 kX7_fresh.2.2.1 kX7_fresh.2.2.2 ∈ TB := TB_mem (List.mem_of_getElem? (i := 1082) (by decide +kernel)) rfl
def kX7_force : Ky_ := (yX7_force, cX7_force, 2, (some .int))
theorem cw_X7_force : Cond.code kX7_force.1 kX7_force.2.1 kX7_force.2.2.1 kX7_force.2.2.2 ∈ TB := TB_mem (List.mem_of_getElem? (i := 1086) (by decide +kernel)) rfl
def kX7_keep : Ky_ := (yX7_keep, cX7_keep, 3, (some .int))
theorem cw_X7_keep : Cond.code kX7_keep.1 kX7_keep.2.1 kX7_keep.2.2.1 kX7_keep.2.2.2 ∈ TB := TB_mem (List.mem_of_getElem? (i := 1090) (by decide +kernel)) rfl
def kX7_isBottle : Ky_ := (yX7_isBottle, cX7_isBottle, 2, (some .boolean))
theorem cw_X7_isBottle : Cond.code kX7_isBottle.1 kX7_isBottle.2.1 kX7_isBottle.2.2.1 kX7_isBottle.2.2.2 ∈ TB := TB_mem (List.mem_of_getElem? (i := 1094) (by decide +kernel)) rfl
def kX7_pour : Ky_ := (yX7_pour, cX7_pour, 4, (some .int))
theorem cw_X7_pour : Cond.code kX7_pour.1 kX7_pour.2.1 kX7_pour.2.2.1 kX7_pour.2.2.2 ∈ TB := TB_mem (List.mem_of_getElem? (i := 1099) (by decide +kernel)) rfl
def kX7_bottle : Ky_ := (yX7_bottle, cX7_bottle, 2, (some .int))
theorem cw_X7_bottle : Cond.code kX7_bottle.1 kX7_bottle.2.1 kX7_bottle.2.2.1 kX7_bottle.2.2.2 ∈ TB := TB_mem (List.mem_of_getElem? (i := 1103) (by decide +kernel)) rfl
def kX7_would : Ky_ := (yX7_would, cX7_would, 1, (some .int))
theorem cw_X7_would : Cond.code kX7_would.1 kX7_would.2.1 kX7_would.2.2.1 kX7_would.2.2.2 ∈ TB := TB_mem (List.mem_of_getElem? (i := 1107) (by decide +kernel)) rfl
def kX7_few : Ky_ := (yX7_few, cX7_few, 3, (some .int))
theorem cw_X7_few : Cond.code kX7_few.1 kX7_few.2.1 kX7_few.2.2.1 kX7_few.2.2.2 ∈ TB := TB_mem (List.mem_of_getElem? (i := 1111) (by decide +kernel)) rfl
def kX7_fewOf : Ky_ := (yX7_fewOf, cX7_fewOf, 4, (some .int))
theorem cw_X7_fewOf : Cond.code kX7_fewOf.1 kX7_fewOf.2.1 kX7_fewOf.2.2.1 kX7_fewOf.2.2.2 ∈ TB := TB_mem (List.mem_of_getElem? (i := 1115) (by decide +kernel)) rfl
def kX7_layFew : Ky_ := (yX7_layFew, cX7_layFew, 4, (some .int))
theorem cw_X7_layFew : Cond.code kX7_layFew.1 kX7_layFew.2.1 kX7_layFew.2.2.1 kX7_layFew.2.2.2 ∈ TB := TB_mem (List.mem_of_getElem? (i := 1119) (by decide +kernel)) rfl
def kX7_isEnough : Ky_ := (yX7_isEnough, cX7_isEnough, 4, (some .boolean))
theorem cw_X7_isEnough : Cond.code kX7_isEnough.1 kX7_isEnough.2.1 kX7_isEnough.2.2.1 kX7_isEnough.2.2.2 ∈ TB := TB_mem (List.mem_of_getElem? (i := 1123) (by decide +kernel)) rfl
def kX7_nextRow : Ky_ := (yX7_nextRow, cX7_nextRow, 4, (some .boolean))
theorem cw_X7_nextRow : Cond.code kX7_nextRow.1 kX7_nextRow.2.1 kX7_nextRow.2.2.1 kX7_nextRow.2.2.2 ∈ TB := TB_mem (List.mem_of_getElem? (i := 1127) (by decide +kernel)) rfl
def kX7_week : Ky_ := (yX7_week, cX7_week, 3, (some .int))
theorem cw_X7_week : Cond.code kX7_week.1 kX7_week.2.1 kX7_week.2.2.1 kX7_week.2.2.2 ∈ TB := TB_mem (List.mem_of_getElem? (i := 1131) (by decide +kernel)) rfl
def kX7_weekOf : Ky_ := (yX7_weekOf, cX7_weekOf, 9, (some .int))
theorem cw_X7_weekOf : Cond.code kX7_weekOf.1 kX7_weekOf.2.1 kX7_weekOf.2.2.1 kX7_weekOf.2.2.2 ∈ TB := TB_mem (List.mem_of_getElem? (i := 1135) (by decide +kernel)) rfl
def kX7_settingBy : Ky_ := (yX7_settingBy, cX7_settingBy, 8, (some .int))
theorem cw_X7_settingBy : Cond.code kX7_settingBy.1 kX7_settingBy.2.1 kX7_settingBy.2.2.1 kX7_settingBy.2.2.2 ∈ TB := TB_mem (List.mem_of_getElem? (i := 1139) (by decide +kernel)) rfl
def kX7_who : Ky_ := (yX7_who, cX7_who, 2, (some .int))
theorem cw_X7_who : Cond.code kX7_who.1 kX7_who.2.1 kX7_who.2.2.1 kX7_who.2.2.2 ∈ TB := TB_mem (List.mem_of_getElem? (i := 1143) (by decide +kernel)) rfl
def kX7_whoOf : Ky_ := (yX7_whoOf, cX7_whoOf, 4, (some .int))
theorem cw_X7_whoOf : Cond.code kX7_whoOf.1 kX7_whoOf.2.1 kX7_whoOf.2.2.1 kX7_whoOf.2.2.2 ∈ TB := TB_mem (List.mem_of_getElem? (i := 1147) (by decide +kernel)) rfl
def kX7_see : Ky_ := (yX7_see, cX7_see, 4, (some .int))
theorem cw_X7_see : Cond.code kX7_see.1 kX7_see.2.1 kX7_see.2.2.1 kX7_see.2.2.2 ∈ TB := TB_mem (List.mem_of_getElem? (i := 1151) (by decide +kernel)) rfl
def kX7_forget : Ky_ := (yX7_forget, cX7_forget, 2, (some .int))
theorem cw_X7_forget : Cond.code kX7_forget.1 kX7_forget.2.1 kX7_forget.2.2.1 kX7_forget.2.2.2 ∈ TB := TB_mem (List.mem_of_getElem? (i := 1156) (by decide +kernel)) rfl
def kX7_weeks : Ky_ := (yX7_weeks, cX7_weeks, 8, (some .int))
theorem cw_X7_weeks : Cond.code kX7_weeks.1 kX7_weeks.2.1 kX7_weeks.2.2.1 kX7_weeks.2.2.2 ∈ TB := TB_mem (List.mem_of_getElem? (i := 1160) (by decide +kernel)) rfl
def kX7_draw : Ky_ := (yX7_draw, cX7_draw, 2, (some .int))
theorem cw_X7_draw : Cond.code kX7_draw.1 kX7_draw.2.1 kX7_draw.2.2.1 kX7_draw.2.2.2 ∈ TB := TB_mem (List.mem_of_getElem? (i := 1165) (by decide +kernel)) rfl
def kX7_sumPeople : Ky_ := (yX7_sumPeople, cX7_sumPeople, 4, (some .int))
theorem cw_X7_sumPeople : Cond.code kX7_sumPeople.1 kX7_sumPeople.2.1 kX7_sumPeople.2.2.1 kX7_sumPeople.2.2.2 ∈ TB := TB_mem (List.mem_of_getElem? (i := 1173) (by decide +kernel)) rfl
def kX7_image : Ky_ := (yX7_image, cX7_image, 1, (some .int))
theorem cw_X7_image : Cond.code kX7_image.1 kX7_image.2.1 kX7_image.2.2.1 kX7_image.2.2.2 ∈ TB := TB_mem (List.mem_of_getElem? (i := 1177) (by decide +kernel)) rfl
def kX7_restore : Ky_ := (yX7_restore, cX7_restore, 1, (some .int))
theorem cw_X7_restore : Cond.code kX7_restore.1 kX7_restore.2.1 kX7_restore.2.2.1 kX7_restore.2.2.2 ∈ TB := TB_mem (List.mem_of_getElem? (i := 1181) (by decide +kernel)) rfl
def kX7_count : Ky_ := (yX7_count, cX7_count, 2, (some .int))
theorem cw_X7_count : Cond.code kX7_count.1 kX7_count.2.1 kX7_count.2.2.1 kX7_count.2.2.2 ∈ TB := TB_mem (List.mem_of_getElem? (i := 1185) (by decide +kernel)) rfl
def kX7_countOf : Ky_ := (yX7_countOf, cX7_countOf, 2, (some .int))
theorem cw_X7_countOf : Cond.code kX7_countOf.1 kX7_countOf.2.1 kX7_countOf.2.2.1 kX7_countOf.2.2.2 ∈ TB := TB_mem (List.mem_of_getElem? (i := 1189) (by decide +kernel)) rfl
def kX7_setNow : Ky_ := (yX7_setNow, cX7_setNow, 3, (some .int))
theorem cw_X7_setNow : Cond.code kX7_setNow.1 kX7_setNow.2.1 kX7_setNow.2.2.1 kX7_setNow.2.2.2 ∈ TB := TB_mem (List.mem_of_getElem? (i := 1193) (by decide +kernel)) rfl
def kX7_fullBottles : Ky_ := (yX7_fullBottles, cX7_fullBottles, 3, (some .int))
theorem cw_X7_fullBottles : Cond.code kX7_fullBottles.1 kX7_fullBottles.2.1 kX7_fullBottles.2.2.1 kX7_fullBottles.2.2.2 ∈ TB := TB_mem (List.mem_of_getElem? (i := 1197) (by decide +kernel)) rfl
def kX7_countMore : Ky_ := (yX7_countMore, cX7_countMore, 2, (some .int))
theorem cw_X7_countMore : Cond.code kX7_countMore.1 kX7_countMore.2.1 kX7_countMore.2.2.1 kX7_countMore.2.2.2 ∈ TB := TB_mem (List.mem_of_getElem? (i := 1201) (by decide +kernel)) rfl
def kX7_digest : Ky_ := (yX7_digest, cX7_digest, 3, (some .long))
theorem cw_X7_digest : Cond.code kX7_digest.1 kX7_digest.2.1 kX7_digest.2.2.1 kX7_digest.2.2.2 ∈ TB := TB_mem (List.mem_of_getElem? (i := 1205) (by decide +kernel)) rfl
def kX7_say : Ky_ := (yX7_say, cX7_say, 3, none)
theorem cw_X7_say : Cond.code kX7_say.1 kX7_say.2.1 kX7_say.2.2.1 kX7_say.2.2.2 ∈ TB := TB_mem (List.mem_of_getElem? (i := 1210) (by decide +kernel)) rfl
def kX7_sayValley : Ky_ := (yX7_sayValley, cX7_sayValley, 2, none)
theorem cw_X7_sayValley : Cond.code kX7_sayValley.1 kX7_sayValley.2.1 kX7_sayValley.2.2.1 kX7_sayValley.2.2.2 ∈ TB := TB_mem (List.mem_of_getElem? (i := 1215) (by decide +kernel)) rfl
theorem in_RL : Cond.initialized RL ∈ TB := TB_mem (List.mem_of_getElem? (i := 54) (by decide +kernel)) rfl
theorem in_RX6 : Cond.initialized RX6 ∈ TB := TB_mem (List.mem_of_getElem? (i := 55) (by decide +kernel)) rfl
theorem in_RX1 : Cond.initialized RX1 ∈ TB := TB_mem (List.mem_of_getElem? (i := 56) (by decide +kernel)) rfl
theorem in_RX5 : Cond.initialized RX5 ∈ TB := TB_mem (List.mem_of_getElem? (i := 57) (by decide +kernel)) rfl
theorem in_RX3 : Cond.initialized RX3 ∈ TB := TB_mem (List.mem_of_getElem? (i := 58) (by decide +kernel)) rfl
theorem in_RX2 : Cond.initialized RX2 ∈ TB := TB_mem (List.mem_of_getElem? (i := 59) (by decide +kernel)) rfl
theorem in_RX0 : Cond.initialized RX0 ∈ TB := TB_mem (List.mem_of_getElem? (i := 60) (by decide +kernel)) rfl
theorem in_RX7 : Cond.initialized RX7 ∈ TB := TB_mem (List.mem_of_getElem? (i := 61) (by decide +kernel)) rfl
theorem in_RJ0 : Cond.initialized RJ0 ∈ TB := TB_mem (List.mem_of_getElem? (i := 62) (by decide +kernel)) rfl
theorem in_RJ1 : Cond.initialized RJ1 ∈ TB := TB_mem (List.mem_of_getElem? (i := 63) (by decide +kernel)) rfl
theorem in_RJ9 : Cond.initialized RJ9 ∈ TB := TB_mem (List.mem_of_getElem? (i := 64) (by decide +kernel)) rfl
theorem in_RJ2 : Cond.initialized RJ2 ∈ TB := TB_mem (List.mem_of_getElem? (i := 65) (by decide +kernel)) rfl
theorem in_RJ3 : Cond.initialized RJ3 ∈ TB := TB_mem (List.mem_of_getElem? (i := 66) (by decide +kernel)) rfl
theorem in_RJ11 : Cond.initialized RJ11 ∈ TB := TB_mem (List.mem_of_getElem? (i := 67) (by decide +kernel)) rfl
theorem in_RJ7 : Cond.initialized RJ7 ∈ TB := TB_mem (List.mem_of_getElem? (i := 68) (by decide +kernel)) rfl
theorem in_RX4 : Cond.initialized RX4 ∈ TB := TB_mem (List.mem_of_getElem? (i := 69) (by decide +kernel)) rfl
theorem in_RJ10 : Cond.initialized RJ10 ∈ TB := TB_mem (List.mem_of_getElem? (i := 70) (by decide +kernel)) rfl
theorem in_RJ6 : Cond.initialized RJ6 ∈ TB := TB_mem (List.mem_of_getElem? (i := 71) (by decide +kernel)) rfl
theorem st_J1_indexOf_4cfef : Cond.static kJ1_indexOf_4cfef.1 ∈ TB := TB_mem (List.mem_of_getElem? (i := 335) (by decide +kernel)) rfl
theorem st_J1_canEncode_9a6ad : Cond.static kJ1_canEncode_9a6ad.1 ∈ TB := TB_mem (List.mem_of_getElem? (i := 338) (by decide +kernel)) rfl
theorem st_J9_max_7cf53 : Cond.static kJ9_max_7cf53.1 ∈ TB := TB_mem (List.mem_of_getElem? (i := 341) (by decide +kernel)) rfl
theorem st_J9_min_7cf53 : Cond.static kJ9_min_7cf53.1 ∈ TB := TB_mem (List.mem_of_getElem? (i := 344) (by decide +kernel)) rfl
theorem st_J1_indexOfChar_4cfef : Cond.static kJ1_indexOfChar_4cfef.1 ∈ TB := TB_mem (List.mem_of_getElem? (i := 347) (by decide +kernel)) rfl
theorem st_J2_indexOf_4cfef : Cond.static kJ2_indexOf_4cfef.1 ∈ TB := TB_mem (List.mem_of_getElem? (i := 350) (by decide +kernel)) rfl
theorem st_J2_indexOfChar_4cfef : Cond.static kJ2_indexOfChar_4cfef.1 ∈ TB := TB_mem (List.mem_of_getElem? (i := 356) (by decide +kernel)) rfl
theorem st_J2_checkBoundsBeginEnd_d044e : Cond.static kJ2_checkBoundsBeginEnd_d044e.1 ∈ TB := TB_mem (List.mem_of_getElem? (i := 359) (by decide +kernel)) rfl
theorem st_J2_length_9d52b : Cond.static kJ2_length_9d52b.1 ∈ TB := TB_mem (List.mem_of_getElem? (i := 362) (by decide +kernel)) rfl
theorem st_J0_checkBoundsBeginEnd_23922 : Cond.static kJ0_checkBoundsBeginEnd_23922.1 ∈ TB := TB_mem (List.mem_of_getElem? (i := 365) (by decide +kernel)) rfl
theorem st_J3_checkFromToIndex_8c36e : Cond.static kJ3_checkFromToIndex_8c36e.1 ∈ TB := TB_mem (List.mem_of_getElem? (i := 370) (by decide +kernel)) rfl
theorem st_J2_indexOfCharUnsafe_4cfef : Cond.static kJ2_indexOfCharUnsafe_4cfef.1 ∈ TB := TB_mem (List.mem_of_getElem? (i := 373) (by decide +kernel)) rfl
theorem st_J2_getChar_3b067 : Cond.static kJ2_getChar_3b067.1 ∈ TB := TB_mem (List.mem_of_getElem? (i := 376) (by decide +kernel)) rfl
theorem st_J2_indexOfSupplementary_4cfef : Cond.static kJ2_indexOfSupplementary_4cfef.1 ∈ TB := TB_mem (List.mem_of_getElem? (i := 385) (by decide +kernel)) rfl
theorem st_J11_isValidCodePoint_9a6ad : Cond.static kJ11_isValidCodePoint_9a6ad.1 ∈ TB := TB_mem (List.mem_of_getElem? (i := 388) (by decide +kernel)) rfl
theorem st_J11_highSurrogate_5068e : Cond.static kJ11_highSurrogate_5068e.1 ∈ TB := TB_mem (List.mem_of_getElem? (i := 391) (by decide +kernel)) rfl
theorem st_J11_lowSurrogate_5068e : Cond.static kJ11_lowSurrogate_5068e.1 ∈ TB := TB_mem (List.mem_of_getElem? (i := 395) (by decide +kernel)) rfl
theorem st_J7_fill_53178 : Cond.static kJ7_fill_53178.1 ∈ TB := TB_mem (List.mem_of_getElem? (i := 417) (by decide +kernel)) rfl
theorem st_X4_growthFromNone : Cond.static kX4_growthFromNone.1 ∈ TB := TB_mem (List.mem_of_getElem? (i := 430) (by decide +kernel)) rfl
theorem st_X6_isSlight : Cond.static kX6_isSlight.1 ∈ TB := TB_mem (List.mem_of_getElem? (i := 433) (by decide +kernel)) rfl
theorem st_X4_isOf : Cond.static kX4_isOf.1 ∈ TB := TB_mem (List.mem_of_getElem? (i := 438) (by decide +kernel)) rfl
theorem st_X6_isRowPlace : Cond.static kX6_isRowPlace.1 ∈ TB := TB_mem (List.mem_of_getElem? (i := 449) (by decide +kernel)) rfl
theorem st_X3_reach : Cond.static kX3_reach.1 ∈ TB := TB_mem (List.mem_of_getElem? (i := 480) (by decide +kernel)) rfl
theorem st_J6_bitCount_0f7a4 : Cond.static kJ6_bitCount_0f7a4.1 ∈ TB := TB_mem (List.mem_of_getElem? (i := 483) (by decide +kernel)) rfl
theorem st_X4_bestTry : Cond.static kX4_bestTry.1 ∈ TB := TB_mem (List.mem_of_getElem? (i := 498) (by decide +kernel)) rfl
theorem st_X4_mostLeft : Cond.static kX4_mostLeft.1 ∈ TB := TB_mem (List.mem_of_getElem? (i := 501) (by decide +kernel)) rfl
theorem st_X4_hasPride : Cond.static kX4_hasPride.1 ∈ TB := TB_mem (List.mem_of_getElem? (i := 504) (by decide +kernel)) rfl
theorem st_X4_likeOnes : Cond.static kX4_likeOnes.1 ∈ TB := TB_mem (List.mem_of_getElem? (i := 508) (by decide +kernel)) rfl
theorem st_X6_commonDivisor : Cond.static kX6_commonDivisor.1 ∈ TB := TB_mem (List.mem_of_getElem? (i := 574) (by decide +kernel)) rfl
theorem st_X6_isPlace : Cond.static kX6_isPlace.1 ∈ TB := TB_mem (List.mem_of_getElem? (i := 591) (by decide +kernel)) rfl
theorem st_X4_overnight : Cond.static kX4_overnight.1 ∈ TB := TB_mem (List.mem_of_getElem? (i := 606) (by decide +kernel)) rfl
theorem st_X6_isRowTell : Cond.static kX6_isRowTell.1 ∈ TB := TB_mem (List.mem_of_getElem? (i := 655) (by decide +kernel)) rfl
theorem st_X3_sumOf : Cond.static kX3_sumOf.1 ∈ TB := TB_mem (List.mem_of_getElem? (i := 724) (by decide +kernel)) rfl
theorem st_X7_in : Cond.static kX7_in.1 ∈ TB := TB_mem (List.mem_of_getElem? (i := 900) (by decide +kernel)) rfl
theorem st_X7_kindBy : Cond.static kX7_kindBy.1 ∈ TB := TB_mem (List.mem_of_getElem? (i := 925) (by decide +kernel)) rfl
theorem st_X7_grievedBy : Cond.static kX7_grievedBy.1 ∈ TB := TB_mem (List.mem_of_getElem? (i := 952) (by decide +kernel)) rfl
theorem st_X7_topped : Cond.static kX7_topped.1 ∈ TB := TB_mem (List.mem_of_getElem? (i := 955) (by decide +kernel)) rfl
theorem st_X7_apart : Cond.static kX7_apart.1 ∈ TB := TB_mem (List.mem_of_getElem? (i := 974) (by decide +kernel)) rfl
theorem st_X7_forceBy : Cond.static kX7_forceBy.1 ∈ TB := TB_mem (List.mem_of_getElem? (i := 977) (by decide +kernel)) rfl
theorem st_X7_ones : Cond.static kX7_ones.1 ∈ TB := TB_mem (List.mem_of_getElem? (i := 984) (by decide +kernel)) rfl
theorem st_X7_copy : Cond.static kX7_copy.1 ∈ TB := TB_mem (List.mem_of_getElem? (i := 1036) (by decide +kernel)) rfl
theorem st_X7_common : Cond.static kX7_common.1 ∈ TB := TB_mem (List.mem_of_getElem? (i := 1043) (by decide +kernel)) rfl
theorem im_X6_letter : Cond.instanceMethod kX6_letter.1 ∈ TB := TB_mem (List.mem_of_getElem? (i := 264) (by decide +kernel)) rfl
theorem im_X1_add : Cond.instanceMethod kX1_add.1 ∈ TB := TB_mem (List.mem_of_getElem? (i := 268) (by decide +kernel)) rfl
theorem im_X6_blank : Cond.instanceMethod kX6_blank.1 ∈ TB := TB_mem (List.mem_of_getElem? (i := 272) (by decide +kernel)) rfl
theorem im_X1_clear : Cond.instanceMethod kX1_clear.1 ∈ TB := TB_mem (List.mem_of_getElem? (i := 276) (by decide +kernel)) rfl
theorem im_X6_fault : Cond.instanceMethod kX6_fault.1 ∈ TB := TB_mem (List.mem_of_getElem? (i := 280) (by decide +kernel)) rfl
theorem im_X1_firstFault : Cond.instanceMethod kX1_firstFault.1 ∈ TB := TB_mem (List.mem_of_getElem? (i := 284) (by decide +kernel)) rfl
theorem im_X1_markPlace : Cond.instanceMethod kX1_markPlace.1 ∈ TB := TB_mem (List.mem_of_getElem? (i := 288) (by decide +kernel)) rfl
theorem im_X1_fitsPails : Cond.instanceMethod kX1_fitsPails.1 ∈ TB := TB_mem (List.mem_of_getElem? (i := 293) (by decide +kernel)) rfl
theorem im_X1_isDigit : Cond.instanceMethod kX1_isDigit.1 ∈ TB := TB_mem (List.mem_of_getElem? (i := 297) (by decide +kernel)) rfl
theorem im_X1_digitAt : Cond.instanceMethod kX1_digitAt.1 ∈ TB := TB_mem (List.mem_of_getElem? (i := 300) (by decide +kernel)) rfl
theorem im_X1_codeAt : Cond.instanceMethod kX1_codeAt.1 ∈ TB := TB_mem (List.mem_of_getElem? (i := 304) (by decide +kernel)) rfl
theorem im_X1_fitsPeople : Cond.instanceMethod kX1_fitsPeople.1 ∈ TB := TB_mem (List.mem_of_getElem? (i := 309) (by decide +kernel)) rfl
theorem im_J0_indexOf_0f7a4 : Cond.instanceMethod kJ0_indexOf_0f7a4.1 ∈ TB := TB_mem (List.mem_of_getElem? (i := 313) (by decide +kernel)) rfl
theorem im_J0_indexOf_7cf53 : Cond.instanceMethod kJ0_indexOf_7cf53.1 ∈ TB := TB_mem (List.mem_of_getElem? (i := 317) (by decide +kernel)) rfl
theorem im_J0_isLatin1_aae02 : Cond.instanceMethod kJ0_isLatin1_aae02.1 ∈ TB := TB_mem (List.mem_of_getElem? (i := 321) (by decide +kernel)) rfl
theorem im_J0_length_8abf5 : Cond.instanceMethod kJ0_length_8abf5.1 ∈ TB := TB_mem (List.mem_of_getElem? (i := 327) (by decide +kernel)) rfl
theorem im_J0_coder_7d493 : Cond.instanceMethod kJ0_coder_7d493.1 ∈ TB := TB_mem (List.mem_of_getElem? (i := 331) (by decide +kernel)) rfl
theorem im_X1_fitsBehindPeople : Cond.instanceMethod kX1_fitsBehindPeople.1 ∈ TB := TB_mem (List.mem_of_getElem? (i := 400) (by decide +kernel)) rfl
theorem im_X6_valley : Cond.instanceMethod kX6_valley.1 ∈ TB := TB_mem (List.mem_of_getElem? (i := 404) (by decide +kernel)) rfl
theorem im_X1_isValley : Cond.instanceMethod kX1_isValley.1 ∈ TB := TB_mem (List.mem_of_getElem? (i := 408) (by decide +kernel)) rfl
theorem im_X3_clear : Cond.instanceMethod kX3_clear.1 ∈ TB := TB_mem (List.mem_of_getElem? (i := 413) (by decide +kernel)) rfl
theorem im_X5_read : Cond.instanceMethod kX5_read.1 ∈ TB := TB_mem (List.mem_of_getElem? (i := 420) (by decide +kernel)) rfl
theorem im_X6_person : Cond.instanceMethod kX6_person.1 ∈ TB := TB_mem (List.mem_of_getElem? (i := 441) (by decide +kernel)) rfl
theorem im_X5_hasPerson : Cond.instanceMethod kX5_hasPerson.1 ∈ TB := TB_mem (List.mem_of_getElem? (i := 445) (by decide +kernel)) rfl
theorem im_X5_growth : Cond.instanceMethod kX5_growth.1 ∈ TB := TB_mem (List.mem_of_getElem? (i := 452) (by decide +kernel)) rfl
theorem im_X5_hasSlight : Cond.instanceMethod kX5_hasSlight.1 ∈ TB := TB_mem (List.mem_of_getElem? (i := 456) (by decide +kernel)) rfl
theorem im_X0_findSeat : Cond.instanceMethod kX0_findSeat.1 ∈ TB := TB_mem (List.mem_of_getElem? (i := 460) (by decide +kernel)) rfl
theorem im_X3_copyForcesFrom : Cond.instanceMethod kX3_copyForcesFrom.1 ∈ TB := TB_mem (List.mem_of_getElem? (i := 465) (by decide +kernel)) rfl
theorem im_X5_allThatWouldSet : Cond.instanceMethod kX5_allThatWouldSet.1 ∈ TB := TB_mem (List.mem_of_getElem? (i := 472) (by decide +kernel)) rfl
theorem im_X3_forceAt : Cond.instanceMethod kX3_forceAt.1 ∈ TB := TB_mem (List.mem_of_getElem? (i := 476) (by decide +kernel)) rfl
theorem im_X2_prides : Cond.instanceMethod kX2_prides.1 ∈ TB := TB_mem (List.mem_of_getElem? (i := 489) (by decide +kernel)) rfl
theorem im_X2_allowsPride : Cond.instanceMethod kX2_allowsPride.1 ∈ TB := TB_mem (List.mem_of_getElem? (i := 494) (by decide +kernel)) rfl
theorem im_X6_as : Cond.instanceMethod kX6_as.1 ∈ TB := TB_mem (List.mem_of_getElem? (i := 512) (by decide +kernel)) rfl
theorem im_X6_pail : Cond.instanceMethod kX6_pail.1 ∈ TB := TB_mem (List.mem_of_getElem? (i := 517) (by decide +kernel)) rfl
theorem im_X5_hasPail : Cond.instanceMethod kX5_hasPail.1 ∈ TB := TB_mem (List.mem_of_getElem? (i := 521) (by decide +kernel)) rfl
theorem im_X3_isSet : Cond.instanceMethod kX3_isSet.1 ∈ TB := TB_mem (List.mem_of_getElem? (i := 526) (by decide +kernel)) rfl
theorem im_X5_wouldSet : Cond.instanceMethod kX5_wouldSet.1 ∈ TB := TB_mem (List.mem_of_getElem? (i := 530) (by decide +kernel)) rfl
theorem im_X6_bottlesFor : Cond.instanceMethod kX6_bottlesFor.1 ∈ TB := TB_mem (List.mem_of_getElem? (i := 536) (by decide +kernel)) rfl
theorem im_X3_bottlesWorth : Cond.instanceMethod kX3_bottlesWorth.1 ∈ TB := TB_mem (List.mem_of_getElem? (i := 539) (by decide +kernel)) rfl
theorem im_X3_fullBottles : Cond.instanceMethod kX3_fullBottles.1 ∈ TB := TB_mem (List.mem_of_getElem? (i := 543) (by decide +kernel)) rfl
theorem im_X3_heldIn : Cond.instanceMethod kX3_heldIn.1 ∈ TB := TB_mem (List.mem_of_getElem? (i := 548) (by decide +kernel)) rfl
theorem im_X6_odds : Cond.instanceMethod kX6_odds.1 ∈ TB := TB_mem (List.mem_of_getElem? (i := 553) (by decide +kernel)) rfl
theorem im_X0_slightsThatSet : Cond.instanceMethod kX0_slightsThatSet.1 ∈ TB := TB_mem (List.mem_of_getElem? (i := 556) (by decide +kernel)) rfl
theorem im_X5_slightNumbers : Cond.instanceMethod kX5_slightNumbers.1 ∈ TB := TB_mem (List.mem_of_getElem? (i := 560) (by decide +kernel)) rfl
theorem im_X0_trySlight : Cond.instanceMethod kX0_trySlight.1 ∈ TB := TB_mem (List.mem_of_getElem? (i := 565) (by decide +kernel)) rfl
theorem im_X5_offend : Cond.instanceMethod kX5_offend.1 ∈ TB := TB_mem (List.mem_of_getElem? (i := 568) (by decide +kernel)) rfl
theorem im_X6_slight : Cond.instanceMethod kX6_slight.1 ∈ TB := TB_mem (List.mem_of_getElem? (i := 577) (by decide +kernel)) rfl
theorem im_X6_soothe : Cond.instanceMethod kX6_soothe.1 ∈ TB := TB_mem (List.mem_of_getElem? (i := 583) (by decide +kernel)) rfl
theorem im_X6_sit : Cond.instanceMethod kX6_sit.1 ∈ TB := TB_mem (List.mem_of_getElem? (i := 587) (by decide +kernel)) rfl
theorem im_X6_night : Cond.instanceMethod kX6_night.1 ∈ TB := TB_mem (List.mem_of_getElem? (i := 594) (by decide +kernel)) rfl
theorem im_X5_isThere : Cond.instanceMethod kX5_isThere.1 ∈ TB := TB_mem (List.mem_of_getElem? (i := 598) (by decide +kernel)) rfl
theorem im_X5_passNight : Cond.instanceMethod kX5_passNight.1 ∈ TB := TB_mem (List.mem_of_getElem? (i := 602) (by decide +kernel)) rfl
theorem im_X6_curdle : Cond.instanceMethod kX6_curdle.1 ∈ TB := TB_mem (List.mem_of_getElem? (i := 609) (by decide +kernel)) rfl
theorem im_X6_fresh : Cond.instanceMethod kX6_fresh.1 ∈ TB := TB_mem (List.mem_of_getElem? (i := 615) (by decide +kernel)) rfl
theorem im_X6_force : Cond.instanceMethod kX6_force.1 ∈ TB := TB_mem (List.mem_of_getElem? (i := 619) (by decide +kernel)) rfl
theorem im_X6_keep : Cond.instanceMethod kX6_keep.1 ∈ TB := TB_mem (List.mem_of_getElem? (i := 623) (by decide +kernel)) rfl
theorem im_X6_hasBottle : Cond.instanceMethod kX6_hasBottle.1 ∈ TB := TB_mem (List.mem_of_getElem? (i := 628) (by decide +kernel)) rfl
theorem im_X6_pour : Cond.instanceMethod kX6_pour.1 ∈ TB := TB_mem (List.mem_of_getElem? (i := 631) (by decide +kernel)) rfl
theorem im_X3_addDrop : Cond.instanceMethod kX3_addDrop.1 ∈ TB := TB_mem (List.mem_of_getElem? (i := 635) (by decide +kernel)) rfl
theorem im_X6_bottle : Cond.instanceMethod kX6_bottle.1 ∈ TB := TB_mem (List.mem_of_getElem? (i := 639) (by decide +kernel)) rfl
theorem im_X6_would : Cond.instanceMethod kX6_would.1 ∈ TB := TB_mem (List.mem_of_getElem? (i := 643) (by decide +kernel)) rfl
theorem im_X6_few : Cond.instanceMethod kX6_few.1 ∈ TB := TB_mem (List.mem_of_getElem? (i := 647) (by decide +kernel)) rfl
theorem im_X5_arePails : Cond.instanceMethod kX5_arePails.1 ∈ TB := TB_mem (List.mem_of_getElem? (i := 651) (by decide +kernel)) rfl
theorem im_X0_findFew : Cond.instanceMethod kX0_findFew.1 ∈ TB := TB_mem (List.mem_of_getElem? (i := 658) (by decide +kernel)) rfl
theorem im_X0_rowSets : Cond.instanceMethod kX0_rowSets.1 ∈ TB := TB_mem (List.mem_of_getElem? (i := 663) (by decide +kernel)) rfl
theorem im_X0_tell : Cond.instanceMethod kX0_tell.1 ∈ TB := TB_mem (List.mem_of_getElem? (i := 667) (by decide +kernel)) rfl
theorem im_X6_week : Cond.instanceMethod kX6_week.1 ∈ TB := TB_mem (List.mem_of_getElem? (i := 671) (by decide +kernel)) rfl
theorem im_X0_findWeek : Cond.instanceMethod kX0_findWeek.1 ∈ TB := TB_mem (List.mem_of_getElem? (i := 675) (by decide +kernel)) rfl
theorem im_X0_tryDay : Cond.instanceMethod kX0_tryDay.1 ∈ TB := TB_mem (List.mem_of_getElem? (i := 680) (by decide +kernel)) rfl
theorem im_X6_who : Cond.instanceMethod kX6_who.1 ∈ TB := TB_mem (List.mem_of_getElem? (i := 684) (by decide +kernel)) rfl
theorem im_X0_slightsThatSetJust : Cond.instanceMethod kX0_slightsThatSetJust.1 ∈ TB := TB_mem (List.mem_of_getElem? (i := 688) (by decide +kernel)) rfl
theorem im_X6_see : Cond.instanceMethod kX6_see.1 ∈ TB := TB_mem (List.mem_of_getElem? (i := 692) (by decide +kernel)) rfl
theorem im_X2_add : Cond.instanceMethod kX2_add.1 ∈ TB := TB_mem (List.mem_of_getElem? (i := 696) (by decide +kernel)) rfl
theorem im_X6_forget : Cond.instanceMethod kX6_forget.1 ∈ TB := TB_mem (List.mem_of_getElem? (i := 700) (by decide +kernel)) rfl
theorem im_X6_weeks : Cond.instanceMethod kX6_weeks.1 ∈ TB := TB_mem (List.mem_of_getElem? (i := 704) (by decide +kernel)) rfl
theorem im_X0_runWeeks : Cond.instanceMethod kX0_runWeeks.1 ∈ TB := TB_mem (List.mem_of_getElem? (i := 708) (by decide +kernel)) rfl
theorem im_X0_draw : Cond.instanceMethod kX0_draw.1 ∈ TB := TB_mem (List.mem_of_getElem? (i := 713) (by decide +kernel)) rfl
theorem im_X3_allGrudges : Cond.instanceMethod kX3_allGrudges.1 ∈ TB := TB_mem (List.mem_of_getElem? (i := 720) (by decide +kernel)) rfl
theorem im_X6_image : Cond.instanceMethod kX6_image.1 ∈ TB := TB_mem (List.mem_of_getElem? (i := 727) (by decide +kernel)) rfl
theorem im_X3_copyFrom : Cond.instanceMethod kX3_copyFrom.1 ∈ TB := TB_mem (List.mem_of_getElem? (i := 731) (by decide +kernel)) rfl
theorem im_X2_copyFrom : Cond.instanceMethod kX2_copyFrom.1 ∈ TB := TB_mem (List.mem_of_getElem? (i := 735) (by decide +kernel)) rfl
theorem im_X6_restore : Cond.instanceMethod kX6_restore.1 ∈ TB := TB_mem (List.mem_of_getElem? (i := 741) (by decide +kernel)) rfl
theorem im_X6_count : Cond.instanceMethod kX6_count.1 ∈ TB := TB_mem (List.mem_of_getElem? (i := 745) (by decide +kernel)) rfl
theorem im_X3_allSlights : Cond.instanceMethod kX3_allSlights.1 ∈ TB := TB_mem (List.mem_of_getElem? (i := 750) (by decide +kernel)) rfl
theorem im_X6_digest : Cond.instanceMethod kX6_digest.1 ∈ TB := TB_mem (List.mem_of_getElem? (i := 754) (by decide +kernel)) rfl
theorem im_X7_letter : Cond.instanceMethod kX7_letter.1 ∈ TB := TB_mem (List.mem_of_getElem? (i := 895) (by decide +kernel)) rfl
theorem im_X7_blank : Cond.instanceMethod kX7_blank.1 ∈ TB := TB_mem (List.mem_of_getElem? (i := 903) (by decide +kernel)) rfl
theorem im_X7_fault : Cond.instanceMethod kX7_fault.1 ∈ TB := TB_mem (List.mem_of_getElem? (i := 907) (by decide +kernel)) rfl
theorem im_X7_faultOf : Cond.instanceMethod kX7_faultOf.1 ∈ TB := TB_mem (List.mem_of_getElem? (i := 912) (by decide +kernel)) rfl
theorem im_X7_isGood : Cond.instanceMethod kX7_isGood.1 ∈ TB := TB_mem (List.mem_of_getElem? (i := 916) (by decide +kernel)) rfl
theorem im_X7_isPersonLetter : Cond.instanceMethod kX7_isPersonLetter.1 ∈ TB := TB_mem (List.mem_of_getElem? (i := 922) (by decide +kernel)) rfl
theorem im_X7_valley : Cond.instanceMethod kX7_valley.1 ∈ TB := TB_mem (List.mem_of_getElem? (i := 930) (by decide +kernel)) rfl
theorem im_X7_person : Cond.instanceMethod kX7_person.1 ∈ TB := TB_mem (List.mem_of_getElem? (i := 934) (by decide +kernel)) rfl
theorem im_X7_isPerson : Cond.instanceMethod kX7_isPerson.1 ∈ TB := TB_mem (List.mem_of_getElem? (i := 939) (by decide +kernel)) rfl
theorem im_X7_tellPerson : Cond.instanceMethod kX7_tellPerson.1 ∈ TB := TB_mem (List.mem_of_getElem? (i := 943) (by decide +kernel)) rfl
theorem im_X7_growsOf : Cond.instanceMethod kX7_growsOf.1 ∈ TB := TB_mem (List.mem_of_getElem? (i := 949) (by decide +kernel)) rfl
theorem im_X7_seatOf : Cond.instanceMethod kX7_seatOf.1 ∈ TB := TB_mem (List.mem_of_getElem? (i := 959) (by decide +kernel)) rfl
theorem im_X7_wouldNow : Cond.instanceMethod kX7_wouldNow.1 ∈ TB := TB_mem (List.mem_of_getElem? (i := 963) (by decide +kernel)) rfl
theorem im_X7_wouldOn : Cond.instanceMethod kX7_wouldOn.1 ∈ TB := TB_mem (List.mem_of_getElem? (i := 967) (by decide +kernel)) rfl
theorem im_X7_forceOn : Cond.instanceMethod kX7_forceOn.1 ∈ TB := TB_mem (List.mem_of_getElem? (i := 971) (by decide +kernel)) rfl
theorem im_X7_dropsAt : Cond.instanceMethod kX7_dropsAt.1 ∈ TB := TB_mem (List.mem_of_getElem? (i := 981) (by decide +kernel)) rfl
theorem im_X7_pridesOf : Cond.instanceMethod kX7_pridesOf.1 ∈ TB := TB_mem (List.mem_of_getElem? (i := 988) (by decide +kernel)) rfl
theorem im_X7_tryOf : Cond.instanceMethod kX7_tryOf.1 ∈ TB := TB_mem (List.mem_of_getElem? (i := 992) (by decide +kernel)) rfl
theorem im_X7_as : Cond.instanceMethod kX7_as.1 ∈ TB := TB_mem (List.mem_of_getElem? (i := 995) (by decide +kernel)) rfl
theorem im_X7_pail : Cond.instanceMethod kX7_pail.1 ∈ TB := TB_mem (List.mem_of_getElem? (i := 1000) (by decide +kernel)) rfl
theorem im_X7_isPail : Cond.instanceMethod kX7_isPail.1 ∈ TB := TB_mem (List.mem_of_getElem? (i := 1005) (by decide +kernel)) rfl
theorem im_X7_tellPail : Cond.instanceMethod kX7_tellPail.1 ∈ TB := TB_mem (List.mem_of_getElem? (i := 1009) (by decide +kernel)) rfl
theorem im_X7_forceAt : Cond.instanceMethod kX7_forceAt.1 ∈ TB := TB_mem (List.mem_of_getElem? (i := 1013) (by decide +kernel)) rfl
theorem im_X7_pourOf : Cond.instanceMethod kX7_pourOf.1 ∈ TB := TB_mem (List.mem_of_getElem? (i := 1017) (by decide +kernel)) rfl
theorem im_X7_isOfFull : Cond.instanceMethod kX7_isOfFull.1 ∈ TB := TB_mem (List.mem_of_getElem? (i := 1021) (by decide +kernel)) rfl
theorem im_X7_inBottles : Cond.instanceMethod kX7_inBottles.1 ∈ TB := TB_mem (List.mem_of_getElem? (i := 1025) (by decide +kernel)) rfl
theorem im_X7_oddsOf : Cond.instanceMethod kX7_oddsOf.1 ∈ TB := TB_mem (List.mem_of_getElem? (i := 1029) (by decide +kernel)) rfl
theorem im_X7_oddsUp : Cond.instanceMethod kX7_oddsUp.1 ∈ TB := TB_mem (List.mem_of_getElem? (i := 1033) (by decide +kernel)) rfl
theorem im_X7_slightOn : Cond.instanceMethod kX7_slightOn.1 ∈ TB := TB_mem (List.mem_of_getElem? (i := 1040) (by decide +kernel)) rfl
theorem im_X7_slight : Cond.instanceMethod kX7_slight.1 ∈ TB := TB_mem (List.mem_of_getElem? (i := 1046) (by decide +kernel)) rfl
theorem im_X7_soothe : Cond.instanceMethod kX7_soothe.1 ∈ TB := TB_mem (List.mem_of_getElem? (i := 1051) (by decide +kernel)) rfl
theorem im_X7_sit : Cond.instanceMethod kX7_sit.1 ∈ TB := TB_mem (List.mem_of_getElem? (i := 1055) (by decide +kernel)) rfl
theorem im_X7_isPlace : Cond.instanceMethod kX7_isPlace.1 ∈ TB := TB_mem (List.mem_of_getElem? (i := 1060) (by decide +kernel)) rfl
theorem im_X7_lacks : Cond.instanceMethod kX7_lacks.1 ∈ TB := TB_mem (List.mem_of_getElem? (i := 1064) (by decide +kernel)) rfl
theorem im_X7_night : Cond.instanceMethod kX7_night.1 ∈ TB := TB_mem (List.mem_of_getElem? (i := 1068) (by decide +kernel)) rfl
theorem im_X7_nightOn : Cond.instanceMethod kX7_nightOn.1 ∈ TB := TB_mem (List.mem_of_getElem? (i := 1073) (by decide +kernel)) rfl
theorem im_X7_curdle : Cond.instanceMethod kX7_curdle.1 ∈ TB := TB_mem (List.mem_of_getElem? (i := 1076) (by decide +kernel)) rfl
theorem im_X7_fresh : Cond.instanceMethod kX7_fresh.1 ∈ TB := TB_mem (List.mem_of_getElem? (i := 1080) (by decide +kernel)) rfl
theorem im_X7_force : Cond.instanceMethod kX7_force.1 ∈ TB := TB_mem (List.mem_of_getElem? (i := 1084) (by decide +kernel)) rfl
theorem im_X7_keep : Cond.instanceMethod kX7_keep.1 ∈ TB := TB_mem (List.mem_of_getElem? (i := 1088) (by decide +kernel)) rfl
theorem im_X7_isBottle : Cond.instanceMethod kX7_isBottle.1 ∈ TB := TB_mem (List.mem_of_getElem? (i := 1093) (by decide +kernel)) rfl
theorem im_X7_pour : Cond.instanceMethod kX7_pour.1 ∈ TB := TB_mem (List.mem_of_getElem? (i := 1097) (by decide +kernel)) rfl
theorem im_X7_bottle : Cond.instanceMethod kX7_bottle.1 ∈ TB := TB_mem (List.mem_of_getElem? (i := 1101) (by decide +kernel)) rfl
theorem im_X7_would : Cond.instanceMethod kX7_would.1 ∈ TB := TB_mem (List.mem_of_getElem? (i := 1105) (by decide +kernel)) rfl
theorem im_X7_few : Cond.instanceMethod kX7_few.1 ∈ TB := TB_mem (List.mem_of_getElem? (i := 1109) (by decide +kernel)) rfl
theorem im_X7_fewOf : Cond.instanceMethod kX7_fewOf.1 ∈ TB := TB_mem (List.mem_of_getElem? (i := 1114) (by decide +kernel)) rfl
theorem im_X7_layFew : Cond.instanceMethod kX7_layFew.1 ∈ TB := TB_mem (List.mem_of_getElem? (i := 1118) (by decide +kernel)) rfl
theorem im_X7_isEnough : Cond.instanceMethod kX7_isEnough.1 ∈ TB := TB_mem (List.mem_of_getElem? (i := 1122) (by decide +kernel)) rfl
theorem im_X7_nextRow : Cond.instanceMethod kX7_nextRow.1 ∈ TB := TB_mem (List.mem_of_getElem? (i := 1126) (by decide +kernel)) rfl
theorem im_X7_week : Cond.instanceMethod kX7_week.1 ∈ TB := TB_mem (List.mem_of_getElem? (i := 1129) (by decide +kernel)) rfl
theorem im_X7_weekOf : Cond.instanceMethod kX7_weekOf.1 ∈ TB := TB_mem (List.mem_of_getElem? (i := 1134) (by decide +kernel)) rfl
theorem im_X7_settingBy : Cond.instanceMethod kX7_settingBy.1 ∈ TB := TB_mem (List.mem_of_getElem? (i := 1138) (by decide +kernel)) rfl
theorem im_X7_who : Cond.instanceMethod kX7_who.1 ∈ TB := TB_mem (List.mem_of_getElem? (i := 1141) (by decide +kernel)) rfl
theorem im_X7_whoOf : Cond.instanceMethod kX7_whoOf.1 ∈ TB := TB_mem (List.mem_of_getElem? (i := 1146) (by decide +kernel)) rfl
theorem im_X7_see : Cond.instanceMethod kX7_see.1 ∈ TB := TB_mem (List.mem_of_getElem? (i := 1149) (by decide +kernel)) rfl
theorem im_X7_forget : Cond.instanceMethod kX7_forget.1 ∈ TB := TB_mem (List.mem_of_getElem? (i := 1154) (by decide +kernel)) rfl
theorem im_X7_weeks : Cond.instanceMethod kX7_weeks.1 ∈ TB := TB_mem (List.mem_of_getElem? (i := 1158) (by decide +kernel)) rfl
theorem im_X7_draw : Cond.instanceMethod kX7_draw.1 ∈ TB := TB_mem (List.mem_of_getElem? (i := 1164) (by decide +kernel)) rfl
theorem im_X7_sumPeople : Cond.instanceMethod kX7_sumPeople.1 ∈ TB := TB_mem (List.mem_of_getElem? (i := 1172) (by decide +kernel)) rfl
theorem im_X7_image : Cond.instanceMethod kX7_image.1 ∈ TB := TB_mem (List.mem_of_getElem? (i := 1175) (by decide +kernel)) rfl
theorem im_X7_restore : Cond.instanceMethod kX7_restore.1 ∈ TB := TB_mem (List.mem_of_getElem? (i := 1179) (by decide +kernel)) rfl
theorem im_X7_count : Cond.instanceMethod kX7_count.1 ∈ TB := TB_mem (List.mem_of_getElem? (i := 1183) (by decide +kernel)) rfl
theorem im_X7_countOf : Cond.instanceMethod kX7_countOf.1 ∈ TB := TB_mem (List.mem_of_getElem? (i := 1188) (by decide +kernel)) rfl
theorem im_X7_setNow : Cond.instanceMethod kX7_setNow.1 ∈ TB := TB_mem (List.mem_of_getElem? (i := 1192) (by decide +kernel)) rfl
theorem im_X7_fullBottles : Cond.instanceMethod kX7_fullBottles.1 ∈ TB := TB_mem (List.mem_of_getElem? (i := 1196) (by decide +kernel)) rfl
theorem im_X7_countMore : Cond.instanceMethod kX7_countMore.1 ∈ TB := TB_mem (List.mem_of_getElem? (i := 1200) (by decide +kernel)) rfl
theorem im_X7_digest : Cond.instanceMethod kX7_digest.1 ∈ TB := TB_mem (List.mem_of_getElem? (i := 1203) (by decide +kernel)) rfl
theorem im_X7_say : Cond.instanceMethod kX7_say.1 ∈ TB := TB_mem (List.mem_of_getElem? (i := 1209) (by decide +kernel)) rfl
theorem im_X7_sayValley : Cond.instanceMethod kX7_sayValley.1 ∈ TB := TB_mem (List.mem_of_getElem? (i := 1214) (by decide +kernel)) rfl
theorem se_X6_letter : Cond.selects kX6_letter.1.cls kX6_letter.1 kX6_letter.1 ∈ TB := TB_mem (List.mem_of_getElem? (i := 265) (by decide +kernel)) rfl
theorem se_X1_add : Cond.selects kX1_add.1.cls kX1_add.1 kX1_add.1 ∈ TB := TB_mem (List.mem_of_getElem? (i := 269) (by decide +kernel)) rfl
theorem se_X6_blank : Cond.selects kX6_blank.1.cls kX6_blank.1 kX6_blank.1 ∈ TB := TB_mem (List.mem_of_getElem? (i := 273) (by decide +kernel)) rfl
theorem se_X1_clear : Cond.selects kX1_clear.1.cls kX1_clear.1 kX1_clear.1 ∈ TB := TB_mem (List.mem_of_getElem? (i := 277) (by decide +kernel)) rfl
theorem se_X6_fault : Cond.selects kX6_fault.1.cls kX6_fault.1 kX6_fault.1 ∈ TB := TB_mem (List.mem_of_getElem? (i := 281) (by decide +kernel)) rfl
theorem se_X1_firstFault : Cond.selects kX1_firstFault.1.cls kX1_firstFault.1 kX1_firstFault.1 ∈ TB := TB_mem (List.mem_of_getElem? (i := 285) (by decide +kernel)) rfl
theorem se_X1_markPlace : Cond.selects kX1_markPlace.1.cls kX1_markPlace.1 kX1_markPlace.1 ∈ TB := TB_mem (List.mem_of_getElem? (i := 289) (by decide +kernel)) rfl
theorem se_X1_digitAt : Cond.selects kX1_digitAt.1.cls kX1_digitAt.1 kX1_digitAt.1 ∈ TB := TB_mem (List.mem_of_getElem? (i := 301) (by decide +kernel)) rfl
theorem se_X1_codeAt : Cond.selects kX1_codeAt.1.cls kX1_codeAt.1 kX1_codeAt.1 ∈ TB := TB_mem (List.mem_of_getElem? (i := 305) (by decide +kernel)) rfl
theorem se_J0_indexOf_0f7a4 : Cond.selects kJ0_indexOf_0f7a4.1.cls kJ0_indexOf_0f7a4.1 kJ0_indexOf_0f7a4.1 ∈ TB := TB_mem (List.mem_of_getElem? (i := 314) (by decide +kernel)) rfl
theorem se_J0_indexOf_7cf53 : Cond.selects kJ0_indexOf_7cf53.1.cls kJ0_indexOf_7cf53.1 kJ0_indexOf_7cf53.1 ∈ TB := TB_mem (List.mem_of_getElem? (i := 318) (by decide +kernel)) rfl
theorem se_J0_isLatin1_aae02 : Cond.selects kJ0_isLatin1_aae02.1.cls kJ0_isLatin1_aae02.1 kJ0_isLatin1_aae02.1 ∈ TB := TB_mem (List.mem_of_getElem? (i := 322) (by decide +kernel)) rfl
theorem se_J0_length_8abf5 : Cond.selects kJ0_length_8abf5.1.cls kJ0_length_8abf5.1 kJ0_length_8abf5.1 ∈ TB := TB_mem (List.mem_of_getElem? (i := 328) (by decide +kernel)) rfl
theorem se_J0_coder_7d493 : Cond.selects kJ0_coder_7d493.1.cls kJ0_coder_7d493.1 kJ0_coder_7d493.1 ∈ TB := TB_mem (List.mem_of_getElem? (i := 332) (by decide +kernel)) rfl
theorem se_X6_valley : Cond.selects kX6_valley.1.cls kX6_valley.1 kX6_valley.1 ∈ TB := TB_mem (List.mem_of_getElem? (i := 405) (by decide +kernel)) rfl
theorem se_X1_isValley : Cond.selects kX1_isValley.1.cls kX1_isValley.1 kX1_isValley.1 ∈ TB := TB_mem (List.mem_of_getElem? (i := 409) (by decide +kernel)) rfl
theorem se_X3_clear : Cond.selects kX3_clear.1.cls kX3_clear.1 kX3_clear.1 ∈ TB := TB_mem (List.mem_of_getElem? (i := 414) (by decide +kernel)) rfl
theorem se_X5_read : Cond.selects kX5_read.1.cls kX5_read.1 kX5_read.1 ∈ TB := TB_mem (List.mem_of_getElem? (i := 421) (by decide +kernel)) rfl
theorem se_X6_person : Cond.selects kX6_person.1.cls kX6_person.1 kX6_person.1 ∈ TB := TB_mem (List.mem_of_getElem? (i := 442) (by decide +kernel)) rfl
theorem se_X5_hasPerson : Cond.selects kX5_hasPerson.1.cls kX5_hasPerson.1 kX5_hasPerson.1 ∈ TB := TB_mem (List.mem_of_getElem? (i := 446) (by decide +kernel)) rfl
theorem se_X5_growth : Cond.selects kX5_growth.1.cls kX5_growth.1 kX5_growth.1 ∈ TB := TB_mem (List.mem_of_getElem? (i := 453) (by decide +kernel)) rfl
theorem se_X5_hasSlight : Cond.selects kX5_hasSlight.1.cls kX5_hasSlight.1 kX5_hasSlight.1 ∈ TB := TB_mem (List.mem_of_getElem? (i := 457) (by decide +kernel)) rfl
theorem se_X0_findSeat : Cond.selects kX0_findSeat.1.cls kX0_findSeat.1 kX0_findSeat.1 ∈ TB := TB_mem (List.mem_of_getElem? (i := 461) (by decide +kernel)) rfl
theorem se_X3_copyForcesFrom : Cond.selects kX3_copyForcesFrom.1.cls kX3_copyForcesFrom.1 kX3_copyForcesFrom.1 ∈ TB := TB_mem (List.mem_of_getElem? (i := 466) (by decide +kernel)) rfl
theorem se_X5_allThatWouldSet : Cond.selects kX5_allThatWouldSet.1.cls kX5_allThatWouldSet.1 kX5_allThatWouldSet.1 ∈ TB := TB_mem (List.mem_of_getElem? (i := 473) (by decide +kernel)) rfl
theorem se_X3_forceAt : Cond.selects kX3_forceAt.1.cls kX3_forceAt.1 kX3_forceAt.1 ∈ TB := TB_mem (List.mem_of_getElem? (i := 477) (by decide +kernel)) rfl
theorem se_X2_prides : Cond.selects kX2_prides.1.cls kX2_prides.1 kX2_prides.1 ∈ TB := TB_mem (List.mem_of_getElem? (i := 490) (by decide +kernel)) rfl
theorem se_X6_as : Cond.selects kX6_as.1.cls kX6_as.1 kX6_as.1 ∈ TB := TB_mem (List.mem_of_getElem? (i := 513) (by decide +kernel)) rfl
theorem se_X6_pail : Cond.selects kX6_pail.1.cls kX6_pail.1 kX6_pail.1 ∈ TB := TB_mem (List.mem_of_getElem? (i := 518) (by decide +kernel)) rfl
theorem se_X5_hasPail : Cond.selects kX5_hasPail.1.cls kX5_hasPail.1 kX5_hasPail.1 ∈ TB := TB_mem (List.mem_of_getElem? (i := 522) (by decide +kernel)) rfl
theorem se_X3_isSet : Cond.selects kX3_isSet.1.cls kX3_isSet.1 kX3_isSet.1 ∈ TB := TB_mem (List.mem_of_getElem? (i := 527) (by decide +kernel)) rfl
theorem se_X5_wouldSet : Cond.selects kX5_wouldSet.1.cls kX5_wouldSet.1 kX5_wouldSet.1 ∈ TB := TB_mem (List.mem_of_getElem? (i := 531) (by decide +kernel)) rfl
theorem se_X3_bottlesWorth : Cond.selects kX3_bottlesWorth.1.cls kX3_bottlesWorth.1 kX3_bottlesWorth.1 ∈ TB := TB_mem (List.mem_of_getElem? (i := 540) (by decide +kernel)) rfl
theorem se_X3_fullBottles : Cond.selects kX3_fullBottles.1.cls kX3_fullBottles.1 kX3_fullBottles.1 ∈ TB := TB_mem (List.mem_of_getElem? (i := 544) (by decide +kernel)) rfl
theorem se_X0_slightsThatSet : Cond.selects kX0_slightsThatSet.1.cls kX0_slightsThatSet.1 kX0_slightsThatSet.1 ∈ TB := TB_mem (List.mem_of_getElem? (i := 557) (by decide +kernel)) rfl
theorem se_X5_slightNumbers : Cond.selects kX5_slightNumbers.1.cls kX5_slightNumbers.1 kX5_slightNumbers.1 ∈ TB := TB_mem (List.mem_of_getElem? (i := 561) (by decide +kernel)) rfl
theorem se_X5_offend : Cond.selects kX5_offend.1.cls kX5_offend.1 kX5_offend.1 ∈ TB := TB_mem (List.mem_of_getElem? (i := 569) (by decide +kernel)) rfl
theorem se_X6_slight : Cond.selects kX6_slight.1.cls kX6_slight.1 kX6_slight.1 ∈ TB := TB_mem (List.mem_of_getElem? (i := 578) (by decide +kernel)) rfl
theorem se_X6_soothe : Cond.selects kX6_soothe.1.cls kX6_soothe.1 kX6_soothe.1 ∈ TB := TB_mem (List.mem_of_getElem? (i := 584) (by decide +kernel)) rfl
theorem se_X6_sit : Cond.selects kX6_sit.1.cls kX6_sit.1 kX6_sit.1 ∈ TB := TB_mem (List.mem_of_getElem? (i := 588) (by decide +kernel)) rfl
theorem se_X6_night : Cond.selects kX6_night.1.cls kX6_night.1 kX6_night.1 ∈ TB := TB_mem (List.mem_of_getElem? (i := 595) (by decide +kernel)) rfl
theorem se_X5_isThere : Cond.selects kX5_isThere.1.cls kX5_isThere.1 kX5_isThere.1 ∈ TB := TB_mem (List.mem_of_getElem? (i := 599) (by decide +kernel)) rfl
theorem se_X5_passNight : Cond.selects kX5_passNight.1.cls kX5_passNight.1 kX5_passNight.1 ∈ TB := TB_mem (List.mem_of_getElem? (i := 603) (by decide +kernel)) rfl
theorem se_X6_curdle : Cond.selects kX6_curdle.1.cls kX6_curdle.1 kX6_curdle.1 ∈ TB := TB_mem (List.mem_of_getElem? (i := 610) (by decide +kernel)) rfl
theorem se_X6_fresh : Cond.selects kX6_fresh.1.cls kX6_fresh.1 kX6_fresh.1 ∈ TB := TB_mem (List.mem_of_getElem? (i := 616) (by decide +kernel)) rfl
theorem se_X6_force : Cond.selects kX6_force.1.cls kX6_force.1 kX6_force.1 ∈ TB := TB_mem (List.mem_of_getElem? (i := 620) (by decide +kernel)) rfl
theorem se_X6_keep : Cond.selects kX6_keep.1.cls kX6_keep.1 kX6_keep.1 ∈ TB := TB_mem (List.mem_of_getElem? (i := 624) (by decide +kernel)) rfl
theorem se_X6_pour : Cond.selects kX6_pour.1.cls kX6_pour.1 kX6_pour.1 ∈ TB := TB_mem (List.mem_of_getElem? (i := 632) (by decide +kernel)) rfl
theorem se_X3_addDrop : Cond.selects kX3_addDrop.1.cls kX3_addDrop.1 kX3_addDrop.1 ∈ TB := TB_mem (List.mem_of_getElem? (i := 636) (by decide +kernel)) rfl
theorem se_X6_bottle : Cond.selects kX6_bottle.1.cls kX6_bottle.1 kX6_bottle.1 ∈ TB := TB_mem (List.mem_of_getElem? (i := 640) (by decide +kernel)) rfl
theorem se_X6_would : Cond.selects kX6_would.1.cls kX6_would.1 kX6_would.1 ∈ TB := TB_mem (List.mem_of_getElem? (i := 644) (by decide +kernel)) rfl
theorem se_X6_few : Cond.selects kX6_few.1.cls kX6_few.1 kX6_few.1 ∈ TB := TB_mem (List.mem_of_getElem? (i := 648) (by decide +kernel)) rfl
theorem se_X5_arePails : Cond.selects kX5_arePails.1.cls kX5_arePails.1 kX5_arePails.1 ∈ TB := TB_mem (List.mem_of_getElem? (i := 652) (by decide +kernel)) rfl
theorem se_X0_findFew : Cond.selects kX0_findFew.1.cls kX0_findFew.1 kX0_findFew.1 ∈ TB := TB_mem (List.mem_of_getElem? (i := 659) (by decide +kernel)) rfl
theorem se_X0_tell : Cond.selects kX0_tell.1.cls kX0_tell.1 kX0_tell.1 ∈ TB := TB_mem (List.mem_of_getElem? (i := 668) (by decide +kernel)) rfl
theorem se_X6_week : Cond.selects kX6_week.1.cls kX6_week.1 kX6_week.1 ∈ TB := TB_mem (List.mem_of_getElem? (i := 672) (by decide +kernel)) rfl
theorem se_X0_findWeek : Cond.selects kX0_findWeek.1.cls kX0_findWeek.1 kX0_findWeek.1 ∈ TB := TB_mem (List.mem_of_getElem? (i := 676) (by decide +kernel)) rfl
theorem se_X6_who : Cond.selects kX6_who.1.cls kX6_who.1 kX6_who.1 ∈ TB := TB_mem (List.mem_of_getElem? (i := 685) (by decide +kernel)) rfl
theorem se_X0_slightsThatSetJust : Cond.selects kX0_slightsThatSetJust.1.cls kX0_slightsThatSetJust.1 kX0_slightsThatSetJust.1 ∈ TB := TB_mem (List.mem_of_getElem? (i := 689) (by decide +kernel)) rfl
theorem se_X6_see : Cond.selects kX6_see.1.cls kX6_see.1 kX6_see.1 ∈ TB := TB_mem (List.mem_of_getElem? (i := 693) (by decide +kernel)) rfl
theorem se_X2_add : Cond.selects kX2_add.1.cls kX2_add.1 kX2_add.1 ∈ TB := TB_mem (List.mem_of_getElem? (i := 697) (by decide +kernel)) rfl
theorem se_X6_forget : Cond.selects kX6_forget.1.cls kX6_forget.1 kX6_forget.1 ∈ TB := TB_mem (List.mem_of_getElem? (i := 701) (by decide +kernel)) rfl
theorem se_X6_weeks : Cond.selects kX6_weeks.1.cls kX6_weeks.1 kX6_weeks.1 ∈ TB := TB_mem (List.mem_of_getElem? (i := 705) (by decide +kernel)) rfl
theorem se_X0_runWeeks : Cond.selects kX0_runWeeks.1.cls kX0_runWeeks.1 kX0_runWeeks.1 ∈ TB := TB_mem (List.mem_of_getElem? (i := 709) (by decide +kernel)) rfl
theorem se_X3_allGrudges : Cond.selects kX3_allGrudges.1.cls kX3_allGrudges.1 kX3_allGrudges.1 ∈ TB := TB_mem (List.mem_of_getElem? (i := 721) (by decide +kernel)) rfl
theorem se_X6_image : Cond.selects kX6_image.1.cls kX6_image.1 kX6_image.1 ∈ TB := TB_mem (List.mem_of_getElem? (i := 728) (by decide +kernel)) rfl
theorem se_X3_copyFrom : Cond.selects kX3_copyFrom.1.cls kX3_copyFrom.1 kX3_copyFrom.1 ∈ TB := TB_mem (List.mem_of_getElem? (i := 732) (by decide +kernel)) rfl
theorem se_X2_copyFrom : Cond.selects kX2_copyFrom.1.cls kX2_copyFrom.1 kX2_copyFrom.1 ∈ TB := TB_mem (List.mem_of_getElem? (i := 736) (by decide +kernel)) rfl
theorem se_X6_restore : Cond.selects kX6_restore.1.cls kX6_restore.1 kX6_restore.1 ∈ TB := TB_mem (List.mem_of_getElem? (i := 742) (by decide +kernel)) rfl
theorem se_X6_count : Cond.selects kX6_count.1.cls kX6_count.1 kX6_count.1 ∈ TB := TB_mem (List.mem_of_getElem? (i := 746) (by decide +kernel)) rfl
theorem se_X3_allSlights : Cond.selects kX3_allSlights.1.cls kX3_allSlights.1 kX3_allSlights.1 ∈ TB := TB_mem (List.mem_of_getElem? (i := 751) (by decide +kernel)) rfl
theorem se_X6_digest : Cond.selects kX6_digest.1.cls kX6_digest.1 kX6_digest.1 ∈ TB := TB_mem (List.mem_of_getElem? (i := 755) (by decide +kernel)) rfl
theorem se_X7_letter : Cond.selects kX7_letter.1.cls kX7_letter.1 kX7_letter.1 ∈ TB := TB_mem (List.mem_of_getElem? (i := 896) (by decide +kernel)) rfl
theorem se_X7_blank : Cond.selects kX7_blank.1.cls kX7_blank.1 kX7_blank.1 ∈ TB := TB_mem (List.mem_of_getElem? (i := 904) (by decide +kernel)) rfl
theorem se_X7_fault : Cond.selects kX7_fault.1.cls kX7_fault.1 kX7_fault.1 ∈ TB := TB_mem (List.mem_of_getElem? (i := 908) (by decide +kernel)) rfl
theorem se_X7_valley : Cond.selects kX7_valley.1.cls kX7_valley.1 kX7_valley.1 ∈ TB := TB_mem (List.mem_of_getElem? (i := 931) (by decide +kernel)) rfl
theorem se_X7_person : Cond.selects kX7_person.1.cls kX7_person.1 kX7_person.1 ∈ TB := TB_mem (List.mem_of_getElem? (i := 935) (by decide +kernel)) rfl
theorem se_X7_as : Cond.selects kX7_as.1.cls kX7_as.1 kX7_as.1 ∈ TB := TB_mem (List.mem_of_getElem? (i := 996) (by decide +kernel)) rfl
theorem se_X7_pail : Cond.selects kX7_pail.1.cls kX7_pail.1 kX7_pail.1 ∈ TB := TB_mem (List.mem_of_getElem? (i := 1001) (by decide +kernel)) rfl
theorem se_X7_slight : Cond.selects kX7_slight.1.cls kX7_slight.1 kX7_slight.1 ∈ TB := TB_mem (List.mem_of_getElem? (i := 1047) (by decide +kernel)) rfl
theorem se_X7_soothe : Cond.selects kX7_soothe.1.cls kX7_soothe.1 kX7_soothe.1 ∈ TB := TB_mem (List.mem_of_getElem? (i := 1052) (by decide +kernel)) rfl
theorem se_X7_sit : Cond.selects kX7_sit.1.cls kX7_sit.1 kX7_sit.1 ∈ TB := TB_mem (List.mem_of_getElem? (i := 1056) (by decide +kernel)) rfl
theorem se_X7_night : Cond.selects kX7_night.1.cls kX7_night.1 kX7_night.1 ∈ TB := TB_mem (List.mem_of_getElem? (i := 1069) (by decide +kernel)) rfl
theorem se_X7_curdle : Cond.selects kX7_curdle.1.cls kX7_curdle.1 kX7_curdle.1 ∈ TB := TB_mem (List.mem_of_getElem? (i := 1077) (by decide +kernel)) rfl
theorem se_X7_fresh : Cond.selects kX7_fresh.1.cls kX7_fresh.1 kX7_fresh.1 ∈ TB := TB_mem (List.mem_of_getElem? (i := 1081) (by decide +kernel)) rfl
theorem se_X7_force : Cond.selects kX7_force.1.cls kX7_force.1 kX7_force.1 ∈ TB := TB_mem (List.mem_of_getElem? (i := 1085) (by decide +kernel)) rfl
theorem se_X7_keep : Cond.selects kX7_keep.1.cls kX7_keep.1 kX7_keep.1 ∈ TB := TB_mem (List.mem_of_getElem? (i := 1089) (by decide +kernel)) rfl
theorem se_X7_pour : Cond.selects kX7_pour.1.cls kX7_pour.1 kX7_pour.1 ∈ TB := TB_mem (List.mem_of_getElem? (i := 1098) (by decide +kernel)) rfl
theorem se_X7_bottle : Cond.selects kX7_bottle.1.cls kX7_bottle.1 kX7_bottle.1 ∈ TB := TB_mem (List.mem_of_getElem? (i := 1102) (by decide +kernel)) rfl
theorem se_X7_would : Cond.selects kX7_would.1.cls kX7_would.1 kX7_would.1 ∈ TB := TB_mem (List.mem_of_getElem? (i := 1106) (by decide +kernel)) rfl
theorem se_X7_few : Cond.selects kX7_few.1.cls kX7_few.1 kX7_few.1 ∈ TB := TB_mem (List.mem_of_getElem? (i := 1110) (by decide +kernel)) rfl
theorem se_X7_week : Cond.selects kX7_week.1.cls kX7_week.1 kX7_week.1 ∈ TB := TB_mem (List.mem_of_getElem? (i := 1130) (by decide +kernel)) rfl
theorem se_X7_who : Cond.selects kX7_who.1.cls kX7_who.1 kX7_who.1 ∈ TB := TB_mem (List.mem_of_getElem? (i := 1142) (by decide +kernel)) rfl
theorem se_X7_see : Cond.selects kX7_see.1.cls kX7_see.1 kX7_see.1 ∈ TB := TB_mem (List.mem_of_getElem? (i := 1150) (by decide +kernel)) rfl
theorem se_X7_forget : Cond.selects kX7_forget.1.cls kX7_forget.1 kX7_forget.1 ∈ TB := TB_mem (List.mem_of_getElem? (i := 1155) (by decide +kernel)) rfl
theorem se_X7_weeks : Cond.selects kX7_weeks.1.cls kX7_weeks.1 kX7_weeks.1 ∈ TB := TB_mem (List.mem_of_getElem? (i := 1159) (by decide +kernel)) rfl
theorem se_X7_image : Cond.selects kX7_image.1.cls kX7_image.1 kX7_image.1 ∈ TB := TB_mem (List.mem_of_getElem? (i := 1176) (by decide +kernel)) rfl
theorem se_X7_restore : Cond.selects kX7_restore.1.cls kX7_restore.1 kX7_restore.1 ∈ TB := TB_mem (List.mem_of_getElem? (i := 1180) (by decide +kernel)) rfl
theorem se_X7_count : Cond.selects kX7_count.1.cls kX7_count.1 kX7_count.1 ∈ TB := TB_mem (List.mem_of_getElem? (i := 1184) (by decide +kernel)) rfl
theorem se_X7_digest : Cond.selects kX7_digest.1.cls kX7_digest.1 kX7_digest.1 ∈ TB := TB_mem (List.mem_of_getElem? (i := 1204) (by decide +kernel)) rfl
theorem se_X1_fitsPails : Cond.selects kX1_fitsPails.1.cls kX1_fitsPails.1 kX1_fitsPails.1 ∈ TB := TB_mem (List.mem_of_getElem? (i := 0) (by decide +kernel)) rfl
theorem se_X1_isDigit : Cond.selects kX1_isDigit.1.cls kX1_isDigit.1 kX1_isDigit.1 ∈ TB := TB_mem (List.mem_of_getElem? (i := 1) (by decide +kernel)) rfl
theorem se_X1_fitsPeople : Cond.selects kX1_fitsPeople.1.cls kX1_fitsPeople.1 kX1_fitsPeople.1 ∈ TB := TB_mem (List.mem_of_getElem? (i := 2) (by decide +kernel)) rfl
theorem se_X1_fitsBehindPeople : Cond.selects kX1_fitsBehindPeople.1.cls kX1_fitsBehindPeople.1 kX1_fitsBehindPeople.1 ∈ TB := TB_mem (List.mem_of_getElem? (i := 3) (by decide +kernel)) rfl
theorem se_X2_allowsPride : Cond.selects kX2_allowsPride.1.cls kX2_allowsPride.1 kX2_allowsPride.1 ∈ TB := TB_mem (List.mem_of_getElem? (i := 4) (by decide +kernel)) rfl
theorem se_X6_bottlesFor : Cond.selects kX6_bottlesFor.1.cls kX6_bottlesFor.1 kX6_bottlesFor.1 ∈ TB := TB_mem (List.mem_of_getElem? (i := 5) (by decide +kernel)) rfl
theorem se_X3_heldIn : Cond.selects kX3_heldIn.1.cls kX3_heldIn.1 kX3_heldIn.1 ∈ TB := TB_mem (List.mem_of_getElem? (i := 6) (by decide +kernel)) rfl
theorem se_X6_odds : Cond.selects kX6_odds.1.cls kX6_odds.1 kX6_odds.1 ∈ TB := TB_mem (List.mem_of_getElem? (i := 7) (by decide +kernel)) rfl
theorem se_X0_trySlight : Cond.selects kX0_trySlight.1.cls kX0_trySlight.1 kX0_trySlight.1 ∈ TB := TB_mem (List.mem_of_getElem? (i := 8) (by decide +kernel)) rfl
theorem se_X6_hasBottle : Cond.selects kX6_hasBottle.1.cls kX6_hasBottle.1 kX6_hasBottle.1 ∈ TB := TB_mem (List.mem_of_getElem? (i := 9) (by decide +kernel)) rfl
theorem se_X0_rowSets : Cond.selects kX0_rowSets.1.cls kX0_rowSets.1 kX0_rowSets.1 ∈ TB := TB_mem (List.mem_of_getElem? (i := 10) (by decide +kernel)) rfl
theorem se_X0_tryDay : Cond.selects kX0_tryDay.1.cls kX0_tryDay.1 kX0_tryDay.1 ∈ TB := TB_mem (List.mem_of_getElem? (i := 11) (by decide +kernel)) rfl
theorem se_X0_draw : Cond.selects kX0_draw.1.cls kX0_draw.1 kX0_draw.1 ∈ TB := TB_mem (List.mem_of_getElem? (i := 12) (by decide +kernel)) rfl
theorem se_X7_faultOf : Cond.selects kX7_faultOf.1.cls kX7_faultOf.1 kX7_faultOf.1 ∈ TB := TB_mem (List.mem_of_getElem? (i := 13) (by decide +kernel)) rfl
theorem se_X7_isGood : Cond.selects kX7_isGood.1.cls kX7_isGood.1 kX7_isGood.1 ∈ TB := TB_mem (List.mem_of_getElem? (i := 14) (by decide +kernel)) rfl
theorem se_X7_isPersonLetter : Cond.selects kX7_isPersonLetter.1.cls kX7_isPersonLetter.1 kX7_isPersonLetter.1 ∈ TB := TB_mem (List.mem_of_getElem? (i := 15) (by decide +kernel)) rfl
theorem se_X7_isPerson : Cond.selects kX7_isPerson.1.cls kX7_isPerson.1 kX7_isPerson.1 ∈ TB := TB_mem (List.mem_of_getElem? (i := 16) (by decide +kernel)) rfl
theorem se_X7_tellPerson : Cond.selects kX7_tellPerson.1.cls kX7_tellPerson.1 kX7_tellPerson.1 ∈ TB := TB_mem (List.mem_of_getElem? (i := 17) (by decide +kernel)) rfl
theorem se_X7_growsOf : Cond.selects kX7_growsOf.1.cls kX7_growsOf.1 kX7_growsOf.1 ∈ TB := TB_mem (List.mem_of_getElem? (i := 18) (by decide +kernel)) rfl
theorem se_X7_seatOf : Cond.selects kX7_seatOf.1.cls kX7_seatOf.1 kX7_seatOf.1 ∈ TB := TB_mem (List.mem_of_getElem? (i := 19) (by decide +kernel)) rfl
theorem se_X7_wouldNow : Cond.selects kX7_wouldNow.1.cls kX7_wouldNow.1 kX7_wouldNow.1 ∈ TB := TB_mem (List.mem_of_getElem? (i := 20) (by decide +kernel)) rfl
theorem se_X7_wouldOn : Cond.selects kX7_wouldOn.1.cls kX7_wouldOn.1 kX7_wouldOn.1 ∈ TB := TB_mem (List.mem_of_getElem? (i := 21) (by decide +kernel)) rfl
theorem se_X7_forceOn : Cond.selects kX7_forceOn.1.cls kX7_forceOn.1 kX7_forceOn.1 ∈ TB := TB_mem (List.mem_of_getElem? (i := 22) (by decide +kernel)) rfl
theorem se_X7_dropsAt : Cond.selects kX7_dropsAt.1.cls kX7_dropsAt.1 kX7_dropsAt.1 ∈ TB := TB_mem (List.mem_of_getElem? (i := 23) (by decide +kernel)) rfl
theorem se_X7_pridesOf : Cond.selects kX7_pridesOf.1.cls kX7_pridesOf.1 kX7_pridesOf.1 ∈ TB := TB_mem (List.mem_of_getElem? (i := 24) (by decide +kernel)) rfl
theorem se_X7_tryOf : Cond.selects kX7_tryOf.1.cls kX7_tryOf.1 kX7_tryOf.1 ∈ TB := TB_mem (List.mem_of_getElem? (i := 25) (by decide +kernel)) rfl
theorem se_X7_isPail : Cond.selects kX7_isPail.1.cls kX7_isPail.1 kX7_isPail.1 ∈ TB := TB_mem (List.mem_of_getElem? (i := 26) (by decide +kernel)) rfl
theorem se_X7_tellPail : Cond.selects kX7_tellPail.1.cls kX7_tellPail.1 kX7_tellPail.1 ∈ TB := TB_mem (List.mem_of_getElem? (i := 27) (by decide +kernel)) rfl
theorem se_X7_forceAt : Cond.selects kX7_forceAt.1.cls kX7_forceAt.1 kX7_forceAt.1 ∈ TB := TB_mem (List.mem_of_getElem? (i := 28) (by decide +kernel)) rfl
theorem se_X7_pourOf : Cond.selects kX7_pourOf.1.cls kX7_pourOf.1 kX7_pourOf.1 ∈ TB := TB_mem (List.mem_of_getElem? (i := 29) (by decide +kernel)) rfl
theorem se_X7_isOfFull : Cond.selects kX7_isOfFull.1.cls kX7_isOfFull.1 kX7_isOfFull.1 ∈ TB := TB_mem (List.mem_of_getElem? (i := 30) (by decide +kernel)) rfl
theorem se_X7_inBottles : Cond.selects kX7_inBottles.1.cls kX7_inBottles.1 kX7_inBottles.1 ∈ TB := TB_mem (List.mem_of_getElem? (i := 31) (by decide +kernel)) rfl
theorem se_X7_oddsOf : Cond.selects kX7_oddsOf.1.cls kX7_oddsOf.1 kX7_oddsOf.1 ∈ TB := TB_mem (List.mem_of_getElem? (i := 32) (by decide +kernel)) rfl
theorem se_X7_oddsUp : Cond.selects kX7_oddsUp.1.cls kX7_oddsUp.1 kX7_oddsUp.1 ∈ TB := TB_mem (List.mem_of_getElem? (i := 33) (by decide +kernel)) rfl
theorem se_X7_slightOn : Cond.selects kX7_slightOn.1.cls kX7_slightOn.1 kX7_slightOn.1 ∈ TB := TB_mem (List.mem_of_getElem? (i := 34) (by decide +kernel)) rfl
theorem se_X7_isPlace : Cond.selects kX7_isPlace.1.cls kX7_isPlace.1 kX7_isPlace.1 ∈ TB := TB_mem (List.mem_of_getElem? (i := 35) (by decide +kernel)) rfl
theorem se_X7_lacks : Cond.selects kX7_lacks.1.cls kX7_lacks.1 kX7_lacks.1 ∈ TB := TB_mem (List.mem_of_getElem? (i := 36) (by decide +kernel)) rfl
theorem se_X7_nightOn : Cond.selects kX7_nightOn.1.cls kX7_nightOn.1 kX7_nightOn.1 ∈ TB := TB_mem (List.mem_of_getElem? (i := 37) (by decide +kernel)) rfl
theorem se_X7_isBottle : Cond.selects kX7_isBottle.1.cls kX7_isBottle.1 kX7_isBottle.1 ∈ TB := TB_mem (List.mem_of_getElem? (i := 38) (by decide +kernel)) rfl
theorem se_X7_fewOf : Cond.selects kX7_fewOf.1.cls kX7_fewOf.1 kX7_fewOf.1 ∈ TB := TB_mem (List.mem_of_getElem? (i := 39) (by decide +kernel)) rfl
theorem se_X7_layFew : Cond.selects kX7_layFew.1.cls kX7_layFew.1 kX7_layFew.1 ∈ TB := TB_mem (List.mem_of_getElem? (i := 40) (by decide +kernel)) rfl
theorem se_X7_isEnough : Cond.selects kX7_isEnough.1.cls kX7_isEnough.1 kX7_isEnough.1 ∈ TB := TB_mem (List.mem_of_getElem? (i := 41) (by decide +kernel)) rfl
theorem se_X7_nextRow : Cond.selects kX7_nextRow.1.cls kX7_nextRow.1 kX7_nextRow.1 ∈ TB := TB_mem (List.mem_of_getElem? (i := 42) (by decide +kernel)) rfl
theorem se_X7_weekOf : Cond.selects kX7_weekOf.1.cls kX7_weekOf.1 kX7_weekOf.1 ∈ TB := TB_mem (List.mem_of_getElem? (i := 43) (by decide +kernel)) rfl
theorem se_X7_settingBy : Cond.selects kX7_settingBy.1.cls kX7_settingBy.1 kX7_settingBy.1 ∈ TB := TB_mem (List.mem_of_getElem? (i := 44) (by decide +kernel)) rfl
theorem se_X7_whoOf : Cond.selects kX7_whoOf.1.cls kX7_whoOf.1 kX7_whoOf.1 ∈ TB := TB_mem (List.mem_of_getElem? (i := 45) (by decide +kernel)) rfl
theorem se_X7_draw : Cond.selects kX7_draw.1.cls kX7_draw.1 kX7_draw.1 ∈ TB := TB_mem (List.mem_of_getElem? (i := 46) (by decide +kernel)) rfl
theorem se_X7_sumPeople : Cond.selects kX7_sumPeople.1.cls kX7_sumPeople.1 kX7_sumPeople.1 ∈ TB := TB_mem (List.mem_of_getElem? (i := 47) (by decide +kernel)) rfl
theorem se_X7_countOf : Cond.selects kX7_countOf.1.cls kX7_countOf.1 kX7_countOf.1 ∈ TB := TB_mem (List.mem_of_getElem? (i := 48) (by decide +kernel)) rfl
theorem se_X7_setNow : Cond.selects kX7_setNow.1.cls kX7_setNow.1 kX7_setNow.1 ∈ TB := TB_mem (List.mem_of_getElem? (i := 49) (by decide +kernel)) rfl
theorem se_X7_fullBottles : Cond.selects kX7_fullBottles.1.cls kX7_fullBottles.1 kX7_fullBottles.1 ∈ TB := TB_mem (List.mem_of_getElem? (i := 50) (by decide +kernel)) rfl
theorem se_X7_countMore : Cond.selects kX7_countMore.1.cls kX7_countMore.1 kX7_countMore.1 ∈ TB := TB_mem (List.mem_of_getElem? (i := 51) (by decide +kernel)) rfl
theorem se_X7_say : Cond.selects kX7_say.1.cls kX7_say.1 kX7_say.1 ∈ TB := TB_mem (List.mem_of_getElem? (i := 52) (by decide +kernel)) rfl
theorem se_X7_sayValley : Cond.selects kX7_sayValley.1.cls kX7_sayValley.1 kX7_sayValley.1 ∈ TB := TB_mem (List.mem_of_getElem? (i := 53) (by decide +kernel)) rfl
theorem vw_L_13 : VW RL 13 kX6_letter 1 := ⟨cw_X6_letter, TB_mem (List.mem_of_getElem? (i := 263) (by decide +kernel)) rfl, im_X6_letter, se_X6_letter, in_RX6, by decide, by decide, by decide, by decide +kernel⟩
theorem vw_X6_44 : VW RX6 44 kX1_add 1 := ⟨cw_X1_add, TB_mem (List.mem_of_getElem? (i := 267) (by decide +kernel)) rfl, im_X1_add, se_X1_add, in_RX1, by decide, by decide, by decide, by decide +kernel⟩
theorem vw_L_18 : VW RL 18 kX6_blank 0 := ⟨cw_X6_blank, TB_mem (List.mem_of_getElem? (i := 271) (by decide +kernel)) rfl, im_X6_blank, se_X6_blank, in_RX6, by decide, by decide, by decide, by decide +kernel⟩
theorem vw_X6_48 : VW RX6 48 kX1_clear 0 := ⟨cw_X1_clear, TB_mem (List.mem_of_getElem? (i := 275) (by decide +kernel)) rfl, im_X1_clear, se_X1_clear, in_RX1, by decide, by decide, by decide, by decide +kernel⟩
theorem vw_L_23 : VW RL 23 kX6_fault 0 := ⟨cw_X6_fault, TB_mem (List.mem_of_getElem? (i := 279) (by decide +kernel)) rfl, im_X6_fault, se_X6_fault, in_RX6, by decide, by decide, by decide, by decide +kernel⟩
theorem vw_X6_52 : VW RX6 52 kX1_firstFault 0 := ⟨cw_X1_firstFault, TB_mem (List.mem_of_getElem? (i := 283) (by decide +kernel)) rfl, im_X1_firstFault, se_X1_firstFault, in_RX1, by decide, by decide, by decide, by decide +kernel⟩
theorem vw_X1_23 : VW RX1 23 kX1_markPlace 0 := ⟨cw_X1_markPlace, TB_mem (List.mem_of_getElem? (i := 287) (by decide +kernel)) rfl, im_X1_markPlace, se_X1_markPlace, in_RX1, by decide, by decide, by decide, by decide +kernel⟩
theorem vw_X1_27 : VW RX1 27 kX1_fitsPails 2 := ⟨cw_X1_fitsPails, TB_mem (List.mem_of_getElem? (i := 291) (by decide +kernel)) rfl, im_X1_fitsPails, se_X1_fitsPails, in_RX1, by decide, by decide, by decide, by decide +kernel⟩
theorem vw_X1_45 : VW RX1 45 kX1_isDigit 3 := ⟨cw_X1_isDigit, TB_mem (List.mem_of_getElem? (i := 295) (by decide +kernel)) rfl, im_X1_isDigit, se_X1_isDigit, in_RX1, by decide, by decide, by decide, by decide +kernel⟩
theorem vw_X1_52 : VW RX1 52 kX1_digitAt 1 := ⟨cw_X1_digitAt, TB_mem (List.mem_of_getElem? (i := 299) (by decide +kernel)) rfl, im_X1_digitAt, se_X1_digitAt, in_RX1, by decide, by decide, by decide, by decide +kernel⟩
theorem vw_X1_19 : VW RX1 19 kX1_codeAt 1 := ⟨cw_X1_codeAt, TB_mem (List.mem_of_getElem? (i := 303) (by decide +kernel)) rfl, im_X1_codeAt, se_X1_codeAt, in_RX1, by decide, by decide, by decide, by decide +kernel⟩
theorem vw_X1_31 : VW RX1 31 kX1_fitsPeople 1 := ⟨cw_X1_fitsPeople, TB_mem (List.mem_of_getElem? (i := 307) (by decide +kernel)) rfl, im_X1_fitsPeople, se_X1_fitsPeople, in_RX1, by decide, by decide, by decide, by decide +kernel⟩
theorem vw_X1_40 : VW RX1 40 kJ0_indexOf_0f7a4 1 := ⟨cw_J0_indexOf_0f7a4, TB_mem (List.mem_of_getElem? (i := 312) (by decide +kernel)) rfl, im_J0_indexOf_0f7a4, se_J0_indexOf_0f7a4, in_RJ0, by decide, by decide, by decide, by decide +kernel⟩
theorem vw_J0_633 : VW RJ0 633 kJ0_indexOf_7cf53 2 := ⟨cw_J0_indexOf_7cf53, TB_mem (List.mem_of_getElem? (i := 316) (by decide +kernel)) rfl, im_J0_indexOf_7cf53, se_J0_indexOf_7cf53, in_RJ0, by decide, by decide, by decide, by decide +kernel⟩
theorem vw_J0_492 : VW RJ0 492 kJ0_isLatin1_aae02 0 := ⟨cw_J0_isLatin1_aae02, TB_mem (List.mem_of_getElem? (i := 320) (by decide +kernel)) rfl, im_J0_isLatin1_aae02, se_J0_isLatin1_aae02, in_RJ0, by decide, by decide, by decide, by decide +kernel⟩
theorem vw_J0_505 : VW RJ0 505 kJ0_length_8abf5 0 := ⟨cw_J0_length_8abf5, TB_mem (List.mem_of_getElem? (i := 326) (by decide +kernel)) rfl, im_J0_length_8abf5, se_J0_length_8abf5, in_RJ0, by decide, by decide, by decide, by decide +kernel⟩
theorem vw_J0_335 : VW RJ0 335 kJ0_coder_7d493 0 := ⟨cw_J0_coder_7d493, TB_mem (List.mem_of_getElem? (i := 330) (by decide +kernel)) rfl, im_J0_coder_7d493, se_J0_coder_7d493, in_RJ0, by decide, by decide, by decide, by decide +kernel⟩
theorem sw_J0_637 : SW RJ0 637 kJ1_indexOf_4cfef 4 := ⟨cw_J1_indexOf_4cfef, Or.inl (TB_mem (List.mem_of_getElem? (i := 334) (by decide +kernel)) rfl), st_J1_indexOf_4cfef, in_RJ1, by decide, by decide, by decide, by decide +kernel⟩
theorem sw_J1_88 : SW RJ1 88 kJ1_canEncode_9a6ad 1 := ⟨cw_J1_canEncode_9a6ad, Or.inl (TB_mem (List.mem_of_getElem? (i := 337) (by decide +kernel)) rfl), st_J1_canEncode_9a6ad, in_RJ1, by decide, by decide, by decide, by decide +kernel⟩
theorem sw_J1_92 : SW RJ1 92 kJ9_max_7cf53 2 := ⟨cw_J9_max_7cf53, Or.inl (TB_mem (List.mem_of_getElem? (i := 340) (by decide +kernel)) rfl), st_J9_max_7cf53, in_RJ9, by decide, by decide, by decide, by decide +kernel⟩
theorem sw_J1_38 : SW RJ1 38 kJ9_min_7cf53 2 := ⟨cw_J9_min_7cf53, Or.inl (TB_mem (List.mem_of_getElem? (i := 343) (by decide +kernel)) rfl), st_J9_min_7cf53, in_RJ9, by decide, by decide, by decide, by decide +kernel⟩
theorem sw_J1_95 : SW RJ1 95 kJ1_indexOfChar_4cfef 4 := ⟨cw_J1_indexOfChar_4cfef, Or.inl (TB_mem (List.mem_of_getElem? (i := 346) (by decide +kernel)) rfl), st_J1_indexOfChar_4cfef, in_RJ1, by decide, by decide, by decide, by decide +kernel⟩
theorem sw_J0_640 : SW RJ0 640 kJ2_indexOf_4cfef 4 := ⟨cw_J2_indexOf_4cfef, Or.inl (TB_mem (List.mem_of_getElem? (i := 349) (by decide +kernel)) rfl), st_J2_indexOf_4cfef, in_RJ2, by decide, by decide, by decide, by decide +kernel⟩
theorem sw_J2_224 : SW RJ2 224 kJ9_max_7cf53 2 := ⟨cw_J9_max_7cf53, Or.inl (TB_mem (List.mem_of_getElem? (i := 352) (by decide +kernel)) rfl), st_J9_max_7cf53, in_RJ9, by decide, by decide, by decide, by decide +kernel⟩
theorem sw_J2_183 : SW RJ2 183 kJ9_min_7cf53 2 := ⟨cw_J9_min_7cf53, Or.inl (TB_mem (List.mem_of_getElem? (i := 353) (by decide +kernel)) rfl), st_J9_min_7cf53, in_RJ9, by decide, by decide, by decide, by decide +kernel⟩
theorem sw_J2_228 : SW RJ2 228 kJ2_indexOfChar_4cfef 4 := ⟨cw_J2_indexOfChar_4cfef, Or.inl (TB_mem (List.mem_of_getElem? (i := 355) (by decide +kernel)) rfl), st_J2_indexOfChar_4cfef, in_RJ2, by decide, by decide, by decide, by decide +kernel⟩
theorem sw_J2_96 : SW RJ2 96 kJ2_checkBoundsBeginEnd_d044e 3 := ⟨cw_J2_checkBoundsBeginEnd_d044e, Or.inl (TB_mem (List.mem_of_getElem? (i := 358) (by decide +kernel)) rfl), st_J2_checkBoundsBeginEnd_d044e, in_RJ2, by decide, by decide, by decide, by decide +kernel⟩
theorem sw_J2_48 : SW RJ2 48 kJ2_length_9d52b 1 := ⟨cw_J2_length_9d52b, Or.inl (TB_mem (List.mem_of_getElem? (i := 361) (by decide +kernel)) rfl), st_J2_length_9d52b, in_RJ2, by decide, by decide, by decide, by decide +kernel⟩
theorem sw_J2_241 : SW RJ2 241 kJ0_checkBoundsBeginEnd_23922 3 := ⟨cw_J0_checkBoundsBeginEnd_23922, Or.inl (TB_mem (List.mem_of_getElem? (i := 364) (by decide +kernel)) rfl), st_J0_checkBoundsBeginEnd_23922, in_RJ0, by decide, by decide, by decide, by decide +kernel⟩
theorem sw_J0_1062 : SW RJ0 1062 kJ3_checkFromToIndex_8c36e 4 := ⟨cw_J3_checkFromToIndex_8c36e, Or.inl (TB_mem (List.mem_of_getElem? (i := 369) (by decide +kernel)) rfl), st_J3_checkFromToIndex_8c36e, in_RJ3, by decide, by decide, by decide, by decide +kernel⟩
theorem sw_J2_244 : SW RJ2 244 kJ2_indexOfCharUnsafe_4cfef 4 := ⟨cw_J2_indexOfCharUnsafe_4cfef, Or.inl (TB_mem (List.mem_of_getElem? (i := 372) (by decide +kernel)) rfl), st_J2_indexOfCharUnsafe_4cfef, in_RJ2, by decide, by decide, by decide, by decide +kernel⟩
theorem sw_J2_71 : SW RJ2 71 kJ2_getChar_3b067 2 := ⟨cw_J2_getChar_3b067, Or.inl (TB_mem (List.mem_of_getElem? (i := 375) (by decide +kernel)) rfl), st_J2_getChar_3b067, in_RJ2, by decide, by decide, by decide, by decide +kernel⟩
theorem sw_J2_232 : SW RJ2 232 kJ2_indexOfSupplementary_4cfef 4 := ⟨cw_J2_indexOfSupplementary_4cfef, Or.inl (TB_mem (List.mem_of_getElem? (i := 384) (by decide +kernel)) rfl), st_J2_indexOfSupplementary_4cfef, in_RJ2, by decide, by decide, by decide, by decide +kernel⟩
theorem sw_J2_164 : SW RJ2 164 kJ11_isValidCodePoint_9a6ad 1 := ⟨cw_J11_isValidCodePoint_9a6ad, Or.inl (TB_mem (List.mem_of_getElem? (i := 387) (by decide +kernel)) rfl), st_J11_isValidCodePoint_9a6ad, in_RJ11, by decide, by decide, by decide, by decide +kernel⟩
theorem sw_J2_157 : SW RJ2 157 kJ11_highSurrogate_5068e 1 := ⟨cw_J11_highSurrogate_5068e, Or.inl (TB_mem (List.mem_of_getElem? (i := 390) (by decide +kernel)) rfl), st_J11_highSurrogate_5068e, in_RJ11, by decide, by decide, by decide, by decide +kernel⟩
theorem sw_J2_161 : SW RJ2 161 kJ11_lowSurrogate_5068e 1 := ⟨cw_J11_lowSurrogate_5068e, Or.inl (TB_mem (List.mem_of_getElem? (i := 394) (by decide +kernel)) rfl), st_J11_lowSurrogate_5068e, in_RJ11, by decide, by decide, by decide, by decide +kernel⟩
theorem vw_X1_49 : VW RX1 49 kX1_fitsBehindPeople 2 := ⟨cw_X1_fitsBehindPeople, TB_mem (List.mem_of_getElem? (i := 398) (by decide +kernel)) rfl, im_X1_fitsBehindPeople, se_X1_fitsBehindPeople, in_RX1, by decide, by decide, by decide, by decide +kernel⟩
theorem vw_L_27 : VW RL 27 kX6_valley 0 := ⟨cw_X6_valley, TB_mem (List.mem_of_getElem? (i := 403) (by decide +kernel)) rfl, im_X6_valley, se_X6_valley, in_RX6, by decide, by decide, by decide, by decide +kernel⟩
theorem vw_X6_55 : VW RX6 55 kX1_isValley 0 := ⟨cw_X1_isValley, TB_mem (List.mem_of_getElem? (i := 407) (by decide +kernel)) rfl, im_X1_isValley, se_X1_isValley, in_RX1, by decide, by decide, by decide, by decide +kernel⟩
theorem vw_X1_35 : VW RX1 35 kX1_firstFault 0 := ⟨cw_X1_firstFault, TB_mem (List.mem_of_getElem? (i := 411) (by decide +kernel)) rfl, im_X1_firstFault, se_X1_firstFault, in_RX1, by decide, by decide, by decide, by decide +kernel⟩
theorem vw_X6_59 : VW RX6 59 kX3_clear 0 := ⟨cw_X3_clear, TB_mem (List.mem_of_getElem? (i := 412) (by decide +kernel)) rfl, im_X3_clear, se_X3_clear, in_RX3, by decide, by decide, by decide, by decide +kernel⟩
theorem sw_X3_37 : SW RX3 37 kJ7_fill_53178 2 := ⟨cw_J7_fill_53178, Or.inl (TB_mem (List.mem_of_getElem? (i := 416) (by decide +kernel)) rfl), st_J7_fill_53178, in_RJ7, by decide, by decide, by decide, by decide +kernel⟩
theorem vw_X6_61 : VW RX6 61 kX5_read 2 := ⟨cw_X5_read, TB_mem (List.mem_of_getElem? (i := 419) (by decide +kernel)) rfl, im_X5_read, se_X5_read, in_RX5, by decide, by decide, by decide, by decide +kernel⟩
theorem vw_X5_24 : VW RX5 24 kX1_markPlace 0 := ⟨cw_X1_markPlace, TB_mem (List.mem_of_getElem? (i := 423) (by decide +kernel)) rfl, im_X1_markPlace, se_X1_markPlace, in_RX1, by decide, by decide, by decide, by decide +kernel⟩
theorem sw_X5_30 : SW RX5 30 kJ9_min_7cf53 2 := ⟨cw_J9_min_7cf53, Or.inl (TB_mem (List.mem_of_getElem? (i := 424) (by decide +kernel)) rfl), st_J9_min_7cf53, in_RJ9, by decide, by decide, by decide, by decide +kernel⟩
theorem vw_X5_42 : VW RX5 42 kX1_codeAt 1 := ⟨cw_X1_codeAt, TB_mem (List.mem_of_getElem? (i := 426) (by decide +kernel)) rfl, im_X1_codeAt, se_X1_codeAt, in_RX1, by decide, by decide, by decide, by decide +kernel⟩
theorem vw_X5_46 : VW RX5 46 kJ0_indexOf_0f7a4 1 := ⟨cw_J0_indexOf_0f7a4, TB_mem (List.mem_of_getElem? (i := 427) (by decide +kernel)) rfl, im_J0_indexOf_0f7a4, se_J0_indexOf_0f7a4, in_RJ0, by decide, by decide, by decide, by decide +kernel⟩
theorem vw_X5_51 : VW RX5 51 kX1_digitAt 1 := ⟨cw_X1_digitAt, TB_mem (List.mem_of_getElem? (i := 428) (by decide +kernel)) rfl, im_X1_digitAt, se_X1_digitAt, in_RX1, by decide, by decide, by decide, by decide +kernel⟩
theorem sw_X5_59 : SW RX5 59 kX4_growthFromNone 3 := ⟨cw_X4_growthFromNone, Or.inl (TB_mem (List.mem_of_getElem? (i := 429) (by decide +kernel)) rfl), st_X4_growthFromNone, in_RX4, by decide, by decide, by decide, by decide +kernel⟩
theorem sw_X4_17 : SW RX4 17 kX4_isOf 2 := ⟨cw_X4_isOf, Or.inl (TB_mem (List.mem_of_getElem? (i := 437) (by decide +kernel)) rfl), st_X4_isOf, in_RX4, by decide, by decide, by decide, by decide +kernel⟩
theorem vw_L_31 : VW RL 31 kX6_person 2 := ⟨cw_X6_person, TB_mem (List.mem_of_getElem? (i := 440) (by decide +kernel)) rfl, im_X6_person, se_X6_person, in_RX6, by decide, by decide, by decide, by decide +kernel⟩
theorem vw_X6_75 : VW RX6 75 kX5_hasPerson 1 := ⟨cw_X5_hasPerson, TB_mem (List.mem_of_getElem? (i := 444) (by decide +kernel)) rfl, im_X5_hasPerson, se_X5_hasPerson, in_RX5, by decide, by decide, by decide, by decide +kernel⟩
theorem sw_X6_79 : SW RX6 79 kX6_isRowPlace 1 := ⟨cw_X6_isRowPlace, Or.inl (TB_mem (List.mem_of_getElem? (i := 448) (by decide +kernel)) rfl), st_X6_isRowPlace, in_RX6, by decide, by decide, by decide, by decide +kernel⟩
theorem vw_X6_82 : VW RX6 82 kX5_growth 2 := ⟨cw_X5_growth, TB_mem (List.mem_of_getElem? (i := 451) (by decide +kernel)) rfl, im_X5_growth, se_X5_growth, in_RX5, by decide, by decide, by decide, by decide +kernel⟩
theorem vw_X5_71 : VW RX5 71 kX5_hasSlight 1 := ⟨cw_X5_hasSlight, TB_mem (List.mem_of_getElem? (i := 455) (by decide +kernel)) rfl, im_X5_hasSlight, se_X5_hasSlight, in_RX5, by decide, by decide, by decide, by decide +kernel⟩
theorem vw_X6_102 : VW RX6 102 kX0_findSeat 3 := ⟨cw_X0_findSeat, TB_mem (List.mem_of_getElem? (i := 459) (by decide +kernel)) rfl, im_X0_findSeat, se_X0_findSeat, in_RX0, by decide, by decide, by decide, by decide +kernel⟩
theorem vw_X0_34 : VW RX0 34 kX5_hasPerson 1 := ⟨cw_X5_hasPerson, TB_mem (List.mem_of_getElem? (i := 463) (by decide +kernel)) rfl, im_X5_hasPerson, se_X5_hasPerson, in_RX5, by decide, by decide, by decide, by decide +kernel⟩
theorem vw_X0_40 : VW RX0 40 kX3_copyForcesFrom 1 := ⟨cw_X3_copyForcesFrom, TB_mem (List.mem_of_getElem? (i := 464) (by decide +kernel)) rfl, im_X3_copyForcesFrom, se_X3_copyForcesFrom, in_RX3, by decide, by decide, by decide, by decide +kernel⟩
theorem vw_X0_47 : VW RX0 47 kX5_allThatWouldSet 1 := ⟨cw_X5_allThatWouldSet, TB_mem (List.mem_of_getElem? (i := 471) (by decide +kernel)) rfl, im_X5_allThatWouldSet, se_X5_allThatWouldSet, in_RX5, by decide, by decide, by decide, by decide +kernel⟩
theorem vw_X5_84 : VW RX5 84 kX3_forceAt 1 := ⟨cw_X3_forceAt, TB_mem (List.mem_of_getElem? (i := 475) (by decide +kernel)) rfl, im_X3_forceAt, se_X3_forceAt, in_RX3, by decide, by decide, by decide, by decide +kernel⟩
theorem sw_X3_73 : SW RX3 73 kX3_reach 3 := ⟨cw_X3_reach, Or.inl (TB_mem (List.mem_of_getElem? (i := 479) (by decide +kernel)) rfl), st_X3_reach, in_RX3, by decide, by decide, by decide, by decide +kernel⟩
theorem sw_X0_51 : SW RX0 51 kJ6_bitCount_0f7a4 1 := ⟨cw_J6_bitCount_0f7a4, Or.inl (TB_mem (List.mem_of_getElem? (i := 482) (by decide +kernel)) rfl), st_J6_bitCount_0f7a4, in_RJ6, by decide, by decide, by decide, by decide +kernel⟩
theorem vw_X6_113 : VW RX6 113 kX2_prides 2 := ⟨cw_X2_prides, TB_mem (List.mem_of_getElem? (i := 488) (by decide +kernel)) rfl, im_X2_prides, se_X2_prides, in_RX2, by decide, by decide, by decide, by decide +kernel⟩
theorem vw_X2_31 : VW RX2 31 kX2_allowsPride 3 := ⟨cw_X2_allowsPride, TB_mem (List.mem_of_getElem? (i := 492) (by decide +kernel)) rfl, im_X2_allowsPride, se_X2_allowsPride, in_RX2, by decide, by decide, by decide, by decide +kernel⟩
theorem sw_X2_35 : SW RX2 35 kX4_growthFromNone 3 := ⟨cw_X4_growthFromNone, Or.inl (TB_mem (List.mem_of_getElem? (i := 496) (by decide +kernel)) rfl), st_X4_growthFromNone, in_RX4, by decide, by decide, by decide, by decide +kernel⟩
theorem sw_X6_118 : SW RX6 118 kX4_bestTry 2 := ⟨cw_X4_bestTry, Or.inl (TB_mem (List.mem_of_getElem? (i := 497) (by decide +kernel)) rfl), st_X4_bestTry, in_RX4, by decide, by decide, by decide, by decide +kernel⟩
theorem sw_X4_23 : SW RX4 23 kX4_mostLeft 3 := ⟨cw_X4_mostLeft, Or.inl (TB_mem (List.mem_of_getElem? (i := 500) (by decide +kernel)) rfl), st_X4_mostLeft, in_RX4, by decide, by decide, by decide, by decide +kernel⟩
theorem sw_X4_27 : SW RX4 27 kX4_hasPride 2 := ⟨cw_X4_hasPride, Or.inl (TB_mem (List.mem_of_getElem? (i := 503) (by decide +kernel)) rfl), st_X4_hasPride, in_RX4, by decide, by decide, by decide, by decide +kernel⟩
theorem sw_X4_30 : SW RX4 30 kX4_growthFromNone 3 := ⟨cw_X4_growthFromNone, Or.inl (TB_mem (List.mem_of_getElem? (i := 506) (by decide +kernel)) rfl), st_X4_growthFromNone, in_RX4, by decide, by decide, by decide, by decide +kernel⟩
theorem sw_X4_33 : SW RX4 33 kX4_likeOnes 4 := ⟨cw_X4_likeOnes, Or.inl (TB_mem (List.mem_of_getElem? (i := 507) (by decide +kernel)) rfl), st_X4_likeOnes, in_RX4, by decide, by decide, by decide, by decide +kernel⟩
theorem sw_X4_37 : SW RX4 37 kJ9_max_7cf53 2 := ⟨cw_J9_max_7cf53, Or.inl (TB_mem (List.mem_of_getElem? (i := 510) (by decide +kernel)) rfl), st_J9_max_7cf53, in_RJ9, by decide, by decide, by decide, by decide +kernel⟩
theorem vw_L_36 : VW RL 36 kX6_as 2 := ⟨cw_X6_as, TB_mem (List.mem_of_getElem? (i := 511) (by decide +kernel)) rfl, im_X6_as, se_X6_as, in_RX6, by decide, by decide, by decide, by decide +kernel⟩
theorem sw_X6_123 : SW RX6 123 kX4_isOf 2 := ⟨cw_X4_isOf, Or.inl (TB_mem (List.mem_of_getElem? (i := 515) (by decide +kernel)) rfl), st_X4_isOf, in_RX4, by decide, by decide, by decide, by decide +kernel⟩
theorem vw_L_40 : VW RL 40 kX6_pail 2 := ⟨cw_X6_pail, TB_mem (List.mem_of_getElem? (i := 516) (by decide +kernel)) rfl, im_X6_pail, se_X6_pail, in_RX6, by decide, by decide, by decide, by decide +kernel⟩
theorem vw_X6_127 : VW RX6 127 kX5_hasPail 1 := ⟨cw_X5_hasPail, TB_mem (List.mem_of_getElem? (i := 520) (by decide +kernel)) rfl, im_X5_hasPail, se_X5_hasPail, in_RX5, by decide, by decide, by decide, by decide +kernel⟩
theorem vw_X6_133 : VW RX6 133 kX3_forceAt 1 := ⟨cw_X3_forceAt, TB_mem (List.mem_of_getElem? (i := 524) (by decide +kernel)) rfl, im_X3_forceAt, se_X3_forceAt, in_RX3, by decide, by decide, by decide, by decide +kernel⟩
theorem vw_X6_137 : VW RX6 137 kX3_isSet 1 := ⟨cw_X3_isSet, TB_mem (List.mem_of_getElem? (i := 525) (by decide +kernel)) rfl, im_X3_isSet, se_X3_isSet, in_RX3, by decide, by decide, by decide, by decide +kernel⟩
theorem vw_X6_140 : VW RX6 140 kX5_wouldSet 2 := ⟨cw_X5_wouldSet, TB_mem (List.mem_of_getElem? (i := 529) (by decide +kernel)) rfl, im_X5_wouldSet, se_X5_wouldSet, in_RX5, by decide, by decide, by decide, by decide +kernel⟩
theorem vw_X5_81 : VW RX5 81 kX5_hasPail 1 := ⟨cw_X5_hasPail, TB_mem (List.mem_of_getElem? (i := 533) (by decide +kernel)) rfl, im_X5_hasPail, se_X5_hasPail, in_RX5, by decide, by decide, by decide, by decide +kernel⟩
theorem vw_X6_144 : VW RX6 144 kX6_bottlesFor 1 := ⟨cw_X6_bottlesFor, TB_mem (List.mem_of_getElem? (i := 534) (by decide +kernel)) rfl, im_X6_bottlesFor, se_X6_bottlesFor, in_RX6, by decide, by decide, by decide, by decide +kernel⟩
theorem vw_X6_281 : VW RX6 281 kX3_bottlesWorth 1 := ⟨cw_X3_bottlesWorth, TB_mem (List.mem_of_getElem? (i := 538) (by decide +kernel)) rfl, im_X3_bottlesWorth, se_X3_bottlesWorth, in_RX3, by decide, by decide, by decide, by decide +kernel⟩
theorem vw_X3_81 : VW RX3 81 kX3_fullBottles 0 := ⟨cw_X3_fullBottles, TB_mem (List.mem_of_getElem? (i := 542) (by decide +kernel)) rfl, im_X3_fullBottles, se_X3_fullBottles, in_RX3, by decide, by decide, by decide, by decide +kernel⟩
theorem vw_X3_85 : VW RX3 85 kX3_heldIn 1 := ⟨cw_X3_heldIn, TB_mem (List.mem_of_getElem? (i := 546) (by decide +kernel)) rfl, im_X3_heldIn, se_X3_heldIn, in_RX3, by decide, by decide, by decide, by decide +kernel⟩
theorem sw_X3_89 : SW RX3 89 kJ6_bitCount_0f7a4 1 := ⟨cw_J6_bitCount_0f7a4, Or.inl (TB_mem (List.mem_of_getElem? (i := 550) (by decide +kernel)) rfl), st_J6_bitCount_0f7a4, in_RJ6, by decide, by decide, by decide, by decide +kernel⟩
theorem vw_X6_147 : VW RX6 147 kX6_odds 2 := ⟨cw_X6_odds, TB_mem (List.mem_of_getElem? (i := 551) (by decide +kernel)) rfl, im_X6_odds, se_X6_odds, in_RX6, by decide, by decide, by decide, by decide +kernel⟩
theorem vw_X6_284 : VW RX6 284 kX0_slightsThatSet 3 := ⟨cw_X0_slightsThatSet, TB_mem (List.mem_of_getElem? (i := 555) (by decide +kernel)) rfl, im_X0_slightsThatSet, se_X0_slightsThatSet, in_RX0, by decide, by decide, by decide, by decide +kernel⟩
theorem vw_X0_61 : VW RX0 61 kX5_slightNumbers 0 := ⟨cw_X5_slightNumbers, TB_mem (List.mem_of_getElem? (i := 559) (by decide +kernel)) rfl, im_X5_slightNumbers, se_X5_slightNumbers, in_RX5, by decide, by decide, by decide, by decide +kernel⟩
theorem vw_X0_65 : VW RX0 65 kX0_trySlight 3 := ⟨cw_X0_trySlight, TB_mem (List.mem_of_getElem? (i := 563) (by decide +kernel)) rfl, im_X0_trySlight, se_X0_trySlight, in_RX0, by decide, by decide, by decide, by decide +kernel⟩
theorem vw_X0_57 : VW RX0 57 kX5_offend 2 := ⟨cw_X5_offend, TB_mem (List.mem_of_getElem? (i := 567) (by decide +kernel)) rfl, im_X5_offend, se_X5_offend, in_RX5, by decide, by decide, by decide, by decide +kernel⟩
theorem vw_X0_69 : VW RX0 69 kX5_wouldSet 2 := ⟨cw_X5_wouldSet, TB_mem (List.mem_of_getElem? (i := 571) (by decide +kernel)) rfl, im_X5_wouldSet, se_X5_wouldSet, in_RX5, by decide, by decide, by decide, by decide +kernel⟩
theorem vw_X6_287 : VW RX6 287 kX5_slightNumbers 0 := ⟨cw_X5_slightNumbers, TB_mem (List.mem_of_getElem? (i := 572) (by decide +kernel)) rfl, im_X5_slightNumbers, se_X5_slightNumbers, in_RX5, by decide, by decide, by decide, by decide +kernel⟩
theorem sw_X6_290 : SW RX6 290 kX6_commonDivisor 2 := ⟨cw_X6_commonDivisor, Or.inl (TB_mem (List.mem_of_getElem? (i := 573) (by decide +kernel)) rfl), st_X6_commonDivisor, in_RX6, by decide, by decide, by decide, by decide +kernel⟩
theorem vw_L_44 : VW RL 44 kX6_slight 2 := ⟨cw_X6_slight, TB_mem (List.mem_of_getElem? (i := 576) (by decide +kernel)) rfl, im_X6_slight, se_X6_slight, in_RX6, by decide, by decide, by decide, by decide +kernel⟩
theorem sw_X6_151 : SW RX6 151 kX6_isSlight 1 := ⟨cw_X6_isSlight, Or.inl (TB_mem (List.mem_of_getElem? (i := 580) (by decide +kernel)) rfl), st_X6_isSlight, in_RX6, by decide, by decide, by decide, by decide +kernel⟩
theorem vw_X6_154 : VW RX6 154 kX5_offend 2 := ⟨cw_X5_offend, TB_mem (List.mem_of_getElem? (i := 581) (by decide +kernel)) rfl, im_X5_offend, se_X5_offend, in_RX5, by decide, by decide, by decide, by decide +kernel⟩
theorem vw_L_48 : VW RL 48 kX6_soothe 1 := ⟨cw_X6_soothe, TB_mem (List.mem_of_getElem? (i := 582) (by decide +kernel)) rfl, im_X6_soothe, se_X6_soothe, in_RX6, by decide, by decide, by decide, by decide +kernel⟩
theorem vw_L_52 : VW RL 52 kX6_sit 2 := ⟨cw_X6_sit, TB_mem (List.mem_of_getElem? (i := 586) (by decide +kernel)) rfl, im_X6_sit, se_X6_sit, in_RX6, by decide, by decide, by decide, by decide +kernel⟩
theorem sw_X6_158 : SW RX6 158 kX6_isPlace 1 := ⟨cw_X6_isPlace, Or.inl (TB_mem (List.mem_of_getElem? (i := 590) (by decide +kernel)) rfl), st_X6_isPlace, in_RX6, by decide, by decide, by decide, by decide +kernel⟩
theorem vw_L_56 : VW RL 56 kX6_night 0 := ⟨cw_X6_night, TB_mem (List.mem_of_getElem? (i := 593) (by decide +kernel)) rfl, im_X6_night, se_X6_night, in_RX6, by decide, by decide, by decide, by decide +kernel⟩
theorem vw_X6_161 : VW RX6 161 kX5_isThere 0 := ⟨cw_X5_isThere, TB_mem (List.mem_of_getElem? (i := 597) (by decide +kernel)) rfl, im_X5_isThere, se_X5_isThere, in_RX5, by decide, by decide, by decide, by decide +kernel⟩
theorem vw_X6_167 : VW RX6 167 kX5_passNight 1 := ⟨cw_X5_passNight, TB_mem (List.mem_of_getElem? (i := 601) (by decide +kernel)) rfl, im_X5_passNight, se_X5_passNight, in_RX5, by decide, by decide, by decide, by decide +kernel⟩
theorem sw_X5_78 : SW RX5 78 kX4_overnight 2 := ⟨cw_X4_overnight, Or.inl (TB_mem (List.mem_of_getElem? (i := 605) (by decide +kernel)) rfl), st_X4_overnight, in_RX4, by decide, by decide, by decide, by decide +kernel⟩
theorem vw_L_60 : VW RL 60 kX6_curdle 0 := ⟨cw_X6_curdle, TB_mem (List.mem_of_getElem? (i := 608) (by decide +kernel)) rfl, im_X6_curdle, se_X6_curdle, in_RX6, by decide, by decide, by decide, by decide +kernel⟩
theorem vw_X6_171 : VW RX6 171 kX5_allThatWouldSet 1 := ⟨cw_X5_allThatWouldSet, TB_mem (List.mem_of_getElem? (i := 612) (by decide +kernel)) rfl, im_X5_allThatWouldSet, se_X5_allThatWouldSet, in_RX5, by decide, by decide, by decide, by decide +kernel⟩
theorem sw_X6_178 : SW RX6 178 kJ6_bitCount_0f7a4 1 := ⟨cw_J6_bitCount_0f7a4, Or.inl (TB_mem (List.mem_of_getElem? (i := 613) (by decide +kernel)) rfl), st_J6_bitCount_0f7a4, in_RJ6, by decide, by decide, by decide, by decide +kernel⟩
theorem vw_L_64 : VW RL 64 kX6_fresh 1 := ⟨cw_X6_fresh, TB_mem (List.mem_of_getElem? (i := 614) (by decide +kernel)) rfl, im_X6_fresh, se_X6_fresh, in_RX6, by decide, by decide, by decide, by decide +kernel⟩
theorem vw_L_68 : VW RL 68 kX6_force 1 := ⟨cw_X6_force, TB_mem (List.mem_of_getElem? (i := 618) (by decide +kernel)) rfl, im_X6_force, se_X6_force, in_RX6, by decide, by decide, by decide, by decide +kernel⟩
theorem vw_L_72 : VW RL 72 kX6_keep 2 := ⟨cw_X6_keep, TB_mem (List.mem_of_getElem? (i := 622) (by decide +kernel)) rfl, im_X6_keep, se_X6_keep, in_RX6, by decide, by decide, by decide, by decide +kernel⟩
theorem vw_X6_189 : VW RX6 189 kX6_hasBottle 1 := ⟨cw_X6_hasBottle, TB_mem (List.mem_of_getElem? (i := 626) (by decide +kernel)) rfl, im_X6_hasBottle, se_X6_hasBottle, in_RX6, by decide, by decide, by decide, by decide +kernel⟩
theorem vw_L_76 : VW RL 76 kX6_pour 2 := ⟨cw_X6_pour, TB_mem (List.mem_of_getElem? (i := 630) (by decide +kernel)) rfl, im_X6_pour, se_X6_pour, in_RX6, by decide, by decide, by decide, by decide +kernel⟩
theorem vw_X6_195 : VW RX6 195 kX3_addDrop 2 := ⟨cw_X3_addDrop, TB_mem (List.mem_of_getElem? (i := 634) (by decide +kernel)) rfl, im_X3_addDrop, se_X3_addDrop, in_RX3, by decide, by decide, by decide, by decide +kernel⟩
theorem vw_L_80 : VW RL 80 kX6_bottle 1 := ⟨cw_X6_bottle, TB_mem (List.mem_of_getElem? (i := 638) (by decide +kernel)) rfl, im_X6_bottle, se_X6_bottle, in_RX6, by decide, by decide, by decide, by decide +kernel⟩
theorem vw_L_84 : VW RL 84 kX6_would 0 := ⟨cw_X6_would, TB_mem (List.mem_of_getElem? (i := 642) (by decide +kernel)) rfl, im_X6_would, se_X6_would, in_RX6, by decide, by decide, by decide, by decide +kernel⟩
theorem vw_L_88 : VW RL 88 kX6_few 2 := ⟨cw_X6_few, TB_mem (List.mem_of_getElem? (i := 646) (by decide +kernel)) rfl, im_X6_few, se_X6_few, in_RX6, by decide, by decide, by decide, by decide +kernel⟩
theorem vw_X6_199 : VW RX6 199 kX5_arePails 1 := ⟨cw_X5_arePails, TB_mem (List.mem_of_getElem? (i := 650) (by decide +kernel)) rfl, im_X5_arePails, se_X5_arePails, in_RX5, by decide, by decide, by decide, by decide +kernel⟩
theorem sw_X6_202 : SW RX6 202 kX6_isRowTell 1 := ⟨cw_X6_isRowTell, Or.inl (TB_mem (List.mem_of_getElem? (i := 654) (by decide +kernel)) rfl), st_X6_isRowTell, in_RX6, by decide, by decide, by decide, by decide +kernel⟩
theorem vw_X6_208 : VW RX6 208 kX0_findFew 3 := ⟨cw_X0_findFew, TB_mem (List.mem_of_getElem? (i := 657) (by decide +kernel)) rfl, im_X0_findFew, se_X0_findFew, in_RX0, by decide, by decide, by decide, by decide +kernel⟩
theorem vw_X0_73 : VW RX0 73 kX0_rowSets 5 := ⟨cw_X0_rowSets, TB_mem (List.mem_of_getElem? (i := 661) (by decide +kernel)) rfl, im_X0_rowSets, se_X0_rowSets, in_RX0, by decide, by decide, by decide, by decide +kernel⟩
theorem vw_X6_212 : VW RX6 212 kX0_tell 2 := ⟨cw_X0_tell, TB_mem (List.mem_of_getElem? (i := 666) (by decide +kernel)) rfl, im_X0_tell, se_X0_tell, in_RX0, by decide, by decide, by decide, by decide +kernel⟩
theorem vw_L_92 : VW RL 92 kX6_week 2 := ⟨cw_X6_week, TB_mem (List.mem_of_getElem? (i := 670) (by decide +kernel)) rfl, im_X6_week, se_X6_week, in_RX6, by decide, by decide, by decide, by decide +kernel⟩
theorem vw_X6_218 : VW RX6 218 kX0_findWeek 3 := ⟨cw_X0_findWeek, TB_mem (List.mem_of_getElem? (i := 674) (by decide +kernel)) rfl, im_X0_findWeek, se_X0_findWeek, in_RX0, by decide, by decide, by decide, by decide +kernel⟩
theorem vw_X0_89 : VW RX0 89 kX0_tryDay 5 := ⟨cw_X0_tryDay, TB_mem (List.mem_of_getElem? (i := 678) (by decide +kernel)) rfl, im_X0_tryDay, se_X0_tryDay, in_RX0, by decide, by decide, by decide, by decide +kernel⟩
theorem vw_X0_96 : VW RX0 96 kX5_passNight 1 := ⟨cw_X5_passNight, TB_mem (List.mem_of_getElem? (i := 682) (by decide +kernel)) rfl, im_X5_passNight, se_X5_passNight, in_RX5, by decide, by decide, by decide, by decide +kernel⟩
theorem vw_L_96 : VW RL 96 kX6_who 1 := ⟨cw_X6_who, TB_mem (List.mem_of_getElem? (i := 683) (by decide +kernel)) rfl, im_X6_who, se_X6_who, in_RX6, by decide, by decide, by decide, by decide +kernel⟩
theorem vw_X6_221 : VW RX6 221 kX0_slightsThatSetJust 3 := ⟨cw_X0_slightsThatSetJust, TB_mem (List.mem_of_getElem? (i := 687) (by decide +kernel)) rfl, im_X0_slightsThatSetJust, se_X0_slightsThatSetJust, in_RX0, by decide, by decide, by decide, by decide +kernel⟩
theorem vw_L_100 : VW RL 100 kX6_see 3 := ⟨cw_X6_see, TB_mem (List.mem_of_getElem? (i := 691) (by decide +kernel)) rfl, im_X6_see, se_X6_see, in_RX6, by decide, by decide, by decide, by decide +kernel⟩
theorem vw_X6_225 : VW RX6 225 kX2_add 3 := ⟨cw_X2_add, TB_mem (List.mem_of_getElem? (i := 695) (by decide +kernel)) rfl, im_X2_add, se_X2_add, in_RX2, by decide, by decide, by decide, by decide +kernel⟩
theorem vw_L_105 : VW RL 105 kX6_forget 0 := ⟨cw_X6_forget, TB_mem (List.mem_of_getElem? (i := 699) (by decide +kernel)) rfl, im_X6_forget, se_X6_forget, in_RX6, by decide, by decide, by decide, by decide +kernel⟩
theorem vw_L_109 : VW RL 109 kX6_weeks 3 := ⟨cw_X6_weeks, TB_mem (List.mem_of_getElem? (i := 703) (by decide +kernel)) rfl, im_X6_weeks, se_X6_weeks, in_RX6, by decide, by decide, by decide, by decide +kernel⟩
theorem vw_X6_228 : VW RX6 228 kX0_runWeeks 4 := ⟨cw_X0_runWeeks, TB_mem (List.mem_of_getElem? (i := 707) (by decide +kernel)) rfl, im_X0_runWeeks, se_X0_runWeeks, in_RX0, by decide, by decide, by decide, by decide +kernel⟩
theorem vw_X0_105 : VW RX0 105 kX0_draw 1 := ⟨cw_X0_draw, TB_mem (List.mem_of_getElem? (i := 711) (by decide +kernel)) rfl, im_X0_draw, se_X0_draw, in_RX0, by decide, by decide, by decide, by decide +kernel⟩
theorem vw_X6_235 : VW RX6 235 kX3_allGrudges 0 := ⟨cw_X3_allGrudges, TB_mem (List.mem_of_getElem? (i := 719) (by decide +kernel)) rfl, im_X3_allGrudges, se_X3_allGrudges, in_RX3, by decide, by decide, by decide, by decide +kernel⟩
theorem sw_X3_77 : SW RX3 77 kX3_sumOf 1 := ⟨cw_X3_sumOf, Or.inl (TB_mem (List.mem_of_getElem? (i := 723) (by decide +kernel)) rfl), st_X3_sumOf, in_RX3, by decide, by decide, by decide, by decide +kernel⟩
theorem vw_L_113 : VW RL 113 kX6_image 0 := ⟨cw_X6_image, TB_mem (List.mem_of_getElem? (i := 726) (by decide +kernel)) rfl, im_X6_image, se_X6_image, in_RX6, by decide, by decide, by decide, by decide +kernel⟩
theorem vw_X6_241 : VW RX6 241 kX3_copyFrom 1 := ⟨cw_X3_copyFrom, TB_mem (List.mem_of_getElem? (i := 730) (by decide +kernel)) rfl, im_X3_copyFrom, se_X3_copyFrom, in_RX3, by decide, by decide, by decide, by decide +kernel⟩
theorem vw_X3_65 : VW RX3 65 kX2_copyFrom 1 := ⟨cw_X2_copyFrom, TB_mem (List.mem_of_getElem? (i := 734) (by decide +kernel)) rfl, im_X2_copyFrom, se_X2_copyFrom, in_RX2, by decide, by decide, by decide, by decide +kernel⟩
theorem vw_X3_69 : VW RX3 69 kX3_copyForcesFrom 1 := ⟨cw_X3_copyForcesFrom, TB_mem (List.mem_of_getElem? (i := 739) (by decide +kernel)) rfl, im_X3_copyForcesFrom, se_X3_copyForcesFrom, in_RX3, by decide, by decide, by decide, by decide +kernel⟩
theorem vw_L_117 : VW RL 117 kX6_restore 0 := ⟨cw_X6_restore, TB_mem (List.mem_of_getElem? (i := 740) (by decide +kernel)) rfl, im_X6_restore, se_X6_restore, in_RX6, by decide, by decide, by decide, by decide +kernel⟩
theorem vw_L_121 : VW RL 121 kX6_count 1 := ⟨cw_X6_count, TB_mem (List.mem_of_getElem? (i := 744) (by decide +kernel)) rfl, im_X6_count, se_X6_count, in_RX6, by decide, by decide, by decide, by decide +kernel⟩
theorem vw_X6_247 : VW RX6 247 kX3_fullBottles 0 := ⟨cw_X3_fullBottles, TB_mem (List.mem_of_getElem? (i := 748) (by decide +kernel)) rfl, im_X3_fullBottles, se_X3_fullBottles, in_RX3, by decide, by decide, by decide, by decide +kernel⟩
theorem vw_X6_250 : VW RX6 250 kX3_allSlights 0 := ⟨cw_X3_allSlights, TB_mem (List.mem_of_getElem? (i := 749) (by decide +kernel)) rfl, im_X3_allSlights, se_X3_allSlights, in_RX3, by decide, by decide, by decide, by decide +kernel⟩
theorem vw_L_125 : VW RL 125 kX6_digest 0 := ⟨cw_X6_digest, TB_mem (List.mem_of_getElem? (i := 753) (by decide +kernel)) rfl, im_X6_digest, se_X6_digest, in_RX6, by decide, by decide, by decide, by decide +kernel⟩
theorem vw_X6_257 : VW RX6 257 kX6_person 2 := ⟨cw_X6_person, TB_mem (List.mem_of_getElem? (i := 759) (by decide +kernel)) rfl, im_X6_person, se_X6_person, in_RX6, by decide, by decide, by decide, by decide +kernel⟩
theorem vw_X6_260 : VW RX6 260 kX6_pail 2 := ⟨cw_X6_pail, TB_mem (List.mem_of_getElem? (i := 760) (by decide +kernel)) rfl, im_X6_pail, se_X6_pail, in_RX6, by decide, by decide, by decide, by decide +kernel⟩
theorem vw_X6_263 : VW RX6 263 kX6_force 1 := ⟨cw_X6_force, TB_mem (List.mem_of_getElem? (i := 761) (by decide +kernel)) rfl, im_X6_force, se_X6_force, in_RX6, by decide, by decide, by decide, by decide +kernel⟩
theorem vw_X6_266 : VW RX6 266 kX6_bottle 1 := ⟨cw_X6_bottle, TB_mem (List.mem_of_getElem? (i := 762) (by decide +kernel)) rfl, im_X6_bottle, se_X6_bottle, in_RX6, by decide, by decide, by decide, by decide +kernel⟩
theorem vw_X6_269 : VW RX6 269 kX6_would 0 := ⟨cw_X6_would, TB_mem (List.mem_of_getElem? (i := 763) (by decide +kernel)) rfl, im_X6_would, se_X6_would, in_RX6, by decide, by decide, by decide, by decide +kernel⟩
theorem vw_X6_272 : VW RX6 272 kX6_who 1 := ⟨cw_X6_who, TB_mem (List.mem_of_getElem? (i := 764) (by decide +kernel)) rfl, im_X6_who, se_X6_who, in_RX6, by decide, by decide, by decide, by decide +kernel⟩
theorem vw_X6_275 : VW RX6 275 kX1_codeAt 1 := ⟨cw_X1_codeAt, TB_mem (List.mem_of_getElem? (i := 765) (by decide +kernel)) rfl, im_X1_codeAt, se_X1_codeAt, in_RX1, by decide, by decide, by decide, by decide +kernel⟩
theorem vw_X6_278 : VW RX6 278 kX6_count 1 := ⟨cw_X6_count, TB_mem (List.mem_of_getElem? (i := 766) (by decide +kernel)) rfl, im_X6_count, se_X6_count, in_RX6, by decide, by decide, by decide, by decide +kernel⟩
theorem vw_L_17 : VW RL 17 kX7_letter 1 := ⟨cw_X7_letter, TB_mem (List.mem_of_getElem? (i := 894) (by decide +kernel)) rfl, im_X7_letter, se_X7_letter, in_RX7, by decide, by decide, by decide, by decide +kernel⟩
theorem sw_X7_76 : SW RX7 76 kX7_in 3 := ⟨cw_X7_in, Or.inl (TB_mem (List.mem_of_getElem? (i := 899) (by decide +kernel)) rfl), st_X7_in, in_RX7, by decide, by decide, by decide, by decide +kernel⟩
theorem vw_L_22 : VW RL 22 kX7_blank 0 := ⟨cw_X7_blank, TB_mem (List.mem_of_getElem? (i := 902) (by decide +kernel)) rfl, im_X7_blank, se_X7_blank, in_RX7, by decide, by decide, by decide, by decide +kernel⟩
theorem vw_L_26 : VW RL 26 kX7_fault 0 := ⟨cw_X7_fault, TB_mem (List.mem_of_getElem? (i := 906) (by decide +kernel)) rfl, im_X7_fault, se_X7_fault, in_RX7, by decide, by decide, by decide, by decide +kernel⟩
theorem vw_X7_105 : VW RX7 105 kX7_faultOf 0 := ⟨cw_X7_faultOf, TB_mem (List.mem_of_getElem? (i := 910) (by decide +kernel)) rfl, im_X7_faultOf, se_X7_faultOf, in_RX7, by decide, by decide, by decide, by decide +kernel⟩
theorem vw_X7_102 : VW RX7 102 kX7_isGood 1 := ⟨cw_X7_isGood, TB_mem (List.mem_of_getElem? (i := 914) (by decide +kernel)) rfl, im_X7_isGood, se_X7_isGood, in_RX7, by decide, by decide, by decide, by decide +kernel⟩
theorem vw_X7_98 : VW RX7 98 kX7_isPersonLetter 1 := ⟨cw_X7_isPersonLetter, TB_mem (List.mem_of_getElem? (i := 920) (by decide +kernel)) rfl, im_X7_isPersonLetter, se_X7_isPersonLetter, in_RX7, by decide, by decide, by decide, by decide +kernel⟩
theorem sw_X7_83 : SW RX7 83 kX7_kindBy 1 := ⟨cw_X7_kindBy, Or.inl (TB_mem (List.mem_of_getElem? (i := 924) (by decide +kernel)) rfl), st_X7_kindBy, in_RX7, by decide, by decide, by decide, by decide +kernel⟩
theorem vw_L_30 : VW RL 30 kX7_valley 0 := ⟨cw_X7_valley, TB_mem (List.mem_of_getElem? (i := 929) (by decide +kernel)) rfl, im_X7_valley, se_X7_valley, in_RX7, by decide, by decide, by decide, by decide +kernel⟩
theorem vw_L_35 : VW RL 35 kX7_person 2 := ⟨cw_X7_person, TB_mem (List.mem_of_getElem? (i := 933) (by decide +kernel)) rfl, im_X7_person, se_X7_person, in_RX7, by decide, by decide, by decide, by decide +kernel⟩
theorem vw_X7_188 : VW RX7 188 kX7_isPerson 1 := ⟨cw_X7_isPerson, TB_mem (List.mem_of_getElem? (i := 937) (by decide +kernel)) rfl, im_X7_isPerson, se_X7_isPerson, in_RX7, by decide, by decide, by decide, by decide +kernel⟩
theorem vw_X7_191 : VW RX7 191 kX7_tellPerson 2 := ⟨cw_X7_tellPerson, TB_mem (List.mem_of_getElem? (i := 941) (by decide +kernel)) rfl, im_X7_tellPerson, se_X7_tellPerson, in_RX7, by decide, by decide, by decide, by decide +kernel⟩
theorem vw_X7_176 : VW RX7 176 kX7_growsOf 2 := ⟨cw_X7_growsOf, TB_mem (List.mem_of_getElem? (i := 947) (by decide +kernel)) rfl, im_X7_growsOf, se_X7_growsOf, in_RX7, by decide, by decide, by decide, by decide +kernel⟩
theorem sw_X7_141 : SW RX7 141 kX7_grievedBy 3 := ⟨cw_X7_grievedBy, Or.inl (TB_mem (List.mem_of_getElem? (i := 951) (by decide +kernel)) rfl), st_X7_grievedBy, in_RX7, by decide, by decide, by decide, by decide +kernel⟩
theorem sw_X7_145 : SW RX7 145 kX7_topped 1 := ⟨cw_X7_topped, Or.inl (TB_mem (List.mem_of_getElem? (i := 954) (by decide +kernel)) rfl), st_X7_topped, in_RX7, by decide, by decide, by decide, by decide +kernel⟩
theorem vw_X7_179 : VW RX7 179 kX7_seatOf 2 := ⟨cw_X7_seatOf, TB_mem (List.mem_of_getElem? (i := 957) (by decide +kernel)) rfl, im_X7_seatOf, se_X7_seatOf, in_RX7, by decide, by decide, by decide, by decide +kernel⟩
theorem vw_X7_166 : VW RX7 166 kX7_wouldNow 0 := ⟨cw_X7_wouldNow, TB_mem (List.mem_of_getElem? (i := 961) (by decide +kernel)) rfl, im_X7_wouldNow, se_X7_wouldNow, in_RX7, by decide, by decide, by decide, by decide +kernel⟩
theorem vw_X7_162 : VW RX7 162 kX7_wouldOn 2 := ⟨cw_X7_wouldOn, TB_mem (List.mem_of_getElem? (i := 965) (by decide +kernel)) rfl, im_X7_wouldOn, se_X7_wouldOn, in_RX7, by decide, by decide, by decide, by decide +kernel⟩
theorem vw_X7_155 : VW RX7 155 kX7_forceOn 2 := ⟨cw_X7_forceOn, TB_mem (List.mem_of_getElem? (i := 969) (by decide +kernel)) rfl, im_X7_forceOn, se_X7_forceOn, in_RX7, by decide, by decide, by decide, by decide +kernel⟩
theorem sw_X7_148 : SW RX7 148 kX7_apart 2 := ⟨cw_X7_apart, Or.inl (TB_mem (List.mem_of_getElem? (i := 973) (by decide +kernel)) rfl), st_X7_apart, in_RX7, by decide, by decide, by decide, by decide +kernel⟩
theorem sw_X7_152 : SW RX7 152 kX7_forceBy 2 := ⟨cw_X7_forceBy, Or.inl (TB_mem (List.mem_of_getElem? (i := 976) (by decide +kernel)) rfl), st_X7_forceBy, in_RX7, by decide, by decide, by decide, by decide +kernel⟩
theorem vw_X7_159 : VW RX7 159 kX7_dropsAt 1 := ⟨cw_X7_dropsAt, TB_mem (List.mem_of_getElem? (i := 979) (by decide +kernel)) rfl, im_X7_dropsAt, se_X7_dropsAt, in_RX7, by decide, by decide, by decide, by decide +kernel⟩
theorem sw_X7_169 : SW RX7 169 kX7_ones 1 := ⟨cw_X7_ones, Or.inl (TB_mem (List.mem_of_getElem? (i := 983) (by decide +kernel)) rfl), st_X7_ones, in_RX7, by decide, by decide, by decide, by decide +kernel⟩
theorem vw_X7_182 : VW RX7 182 kX7_pridesOf 1 := ⟨cw_X7_pridesOf, TB_mem (List.mem_of_getElem? (i := 986) (by decide +kernel)) rfl, im_X7_pridesOf, se_X7_pridesOf, in_RX7, by decide, by decide, by decide, by decide +kernel⟩
theorem vw_X7_185 : VW RX7 185 kX7_tryOf 1 := ⟨cw_X7_tryOf, TB_mem (List.mem_of_getElem? (i := 990) (by decide +kernel)) rfl, im_X7_tryOf, se_X7_tryOf, in_RX7, by decide, by decide, by decide, by decide +kernel⟩
theorem vw_L_39 : VW RL 39 kX7_as 2 := ⟨cw_X7_as, TB_mem (List.mem_of_getElem? (i := 994) (by decide +kernel)) rfl, im_X7_as, se_X7_as, in_RX7, by decide, by decide, by decide, by decide +kernel⟩
theorem vw_L_43 : VW RL 43 kX7_pail 2 := ⟨cw_X7_pail, TB_mem (List.mem_of_getElem? (i := 999) (by decide +kernel)) rfl, im_X7_pail, se_X7_pail, in_RX7, by decide, by decide, by decide, by decide +kernel⟩
theorem vw_X7_225 : VW RX7 225 kX7_isPail 1 := ⟨cw_X7_isPail, TB_mem (List.mem_of_getElem? (i := 1003) (by decide +kernel)) rfl, im_X7_isPail, se_X7_isPail, in_RX7, by decide, by decide, by decide, by decide +kernel⟩
theorem vw_X7_228 : VW RX7 228 kX7_tellPail 2 := ⟨cw_X7_tellPail, TB_mem (List.mem_of_getElem? (i := 1007) (by decide +kernel)) rfl, im_X7_tellPail, se_X7_tellPail, in_RX7, by decide, by decide, by decide, by decide +kernel⟩
theorem vw_X7_196 : VW RX7 196 kX7_forceAt 1 := ⟨cw_X7_forceAt, TB_mem (List.mem_of_getElem? (i := 1011) (by decide +kernel)) rfl, im_X7_forceAt, se_X7_forceAt, in_RX7, by decide, by decide, by decide, by decide +kernel⟩
theorem vw_X7_219 : VW RX7 219 kX7_pourOf 1 := ⟨cw_X7_pourOf, TB_mem (List.mem_of_getElem? (i := 1015) (by decide +kernel)) rfl, im_X7_pourOf, se_X7_pourOf, in_RX7, by decide, by decide, by decide, by decide +kernel⟩
theorem vw_X7_199 : VW RX7 199 kX7_isOfFull 1 := ⟨cw_X7_isOfFull, TB_mem (List.mem_of_getElem? (i := 1019) (by decide +kernel)) rfl, im_X7_isOfFull, se_X7_isOfFull, in_RX7, by decide, by decide, by decide, by decide +kernel⟩
theorem vw_X7_202 : VW RX7 202 kX7_inBottles 1 := ⟨cw_X7_inBottles, TB_mem (List.mem_of_getElem? (i := 1023) (by decide +kernel)) rfl, im_X7_inBottles, se_X7_inBottles, in_RX7, by decide, by decide, by decide, by decide +kernel⟩
theorem vw_X7_222 : VW RX7 222 kX7_oddsOf 2 := ⟨cw_X7_oddsOf, TB_mem (List.mem_of_getElem? (i := 1027) (by decide +kernel)) rfl, im_X7_oddsOf, se_X7_oddsOf, in_RX7, by decide, by decide, by decide, by decide +kernel⟩
theorem vw_X7_213 : VW RX7 213 kX7_oddsUp 1 := ⟨cw_X7_oddsUp, TB_mem (List.mem_of_getElem? (i := 1031) (by decide +kernel)) rfl, im_X7_oddsUp, se_X7_oddsUp, in_RX7, by decide, by decide, by decide, by decide +kernel⟩
theorem sw_X7_205 : SW RX7 205 kX7_copy 2 := ⟨cw_X7_copy, Or.inl (TB_mem (List.mem_of_getElem? (i := 1035) (by decide +kernel)) rfl), st_X7_copy, in_RX7, by decide, by decide, by decide, by decide +kernel⟩
theorem vw_X7_209 : VW RX7 209 kX7_slightOn 2 := ⟨cw_X7_slightOn, TB_mem (List.mem_of_getElem? (i := 1038) (by decide +kernel)) rfl, im_X7_slightOn, se_X7_slightOn, in_RX7, by decide, by decide, by decide, by decide +kernel⟩
theorem sw_X7_216 : SW RX7 216 kX7_common 2 := ⟨cw_X7_common, Or.inl (TB_mem (List.mem_of_getElem? (i := 1042) (by decide +kernel)) rfl), st_X7_common, in_RX7, by decide, by decide, by decide, by decide +kernel⟩
theorem vw_L_47 : VW RL 47 kX7_slight 2 := ⟨cw_X7_slight, TB_mem (List.mem_of_getElem? (i := 1045) (by decide +kernel)) rfl, im_X7_slight, se_X7_slight, in_RX7, by decide, by decide, by decide, by decide +kernel⟩
theorem vw_L_51 : VW RL 51 kX7_soothe 1 := ⟨cw_X7_soothe, TB_mem (List.mem_of_getElem? (i := 1050) (by decide +kernel)) rfl, im_X7_soothe, se_X7_soothe, in_RX7, by decide, by decide, by decide, by decide +kernel⟩
theorem vw_L_55 : VW RL 55 kX7_sit 2 := ⟨cw_X7_sit, TB_mem (List.mem_of_getElem? (i := 1054) (by decide +kernel)) rfl, im_X7_sit, se_X7_sit, in_RX7, by decide, by decide, by decide, by decide +kernel⟩
theorem vw_X7_233 : VW RX7 233 kX7_isPlace 1 := ⟨cw_X7_isPlace, TB_mem (List.mem_of_getElem? (i := 1058) (by decide +kernel)) rfl, im_X7_isPlace, se_X7_isPlace, in_RX7, by decide, by decide, by decide, by decide +kernel⟩
theorem vw_X7_133 : VW RX7 133 kX7_lacks 0 := ⟨cw_X7_lacks, TB_mem (List.mem_of_getElem? (i := 1062) (by decide +kernel)) rfl, im_X7_lacks, se_X7_lacks, in_RX7, by decide, by decide, by decide, by decide +kernel⟩
theorem vw_L_59 : VW RL 59 kX7_night 0 := ⟨cw_X7_night, TB_mem (List.mem_of_getElem? (i := 1067) (by decide +kernel)) rfl, im_X7_night, se_X7_night, in_RX7, by decide, by decide, by decide, by decide +kernel⟩
theorem vw_X7_236 : VW RX7 236 kX7_nightOn 1 := ⟨cw_X7_nightOn, TB_mem (List.mem_of_getElem? (i := 1071) (by decide +kernel)) rfl, im_X7_nightOn, se_X7_nightOn, in_RX7, by decide, by decide, by decide, by decide +kernel⟩
theorem vw_L_63 : VW RL 63 kX7_curdle 0 := ⟨cw_X7_curdle, TB_mem (List.mem_of_getElem? (i := 1075) (by decide +kernel)) rfl, im_X7_curdle, se_X7_curdle, in_RX7, by decide, by decide, by decide, by decide +kernel⟩
theorem vw_L_67 : VW RL 67 kX7_fresh 1 := ⟨cw_X7_fresh, TB_mem (List.mem_of_getElem? (i := 1079) (by decide +kernel)) rfl, im_X7_fresh, se_X7_fresh, in_RX7, by decide, by decide, by decide, by decide +kernel⟩
theorem vw_L_71 : VW RL 71 kX7_force 1 := ⟨cw_X7_force, TB_mem (List.mem_of_getElem? (i := 1083) (by decide +kernel)) rfl, im_X7_force, se_X7_force, in_RX7, by decide, by decide, by decide, by decide +kernel⟩
theorem vw_L_75 : VW RL 75 kX7_keep 2 := ⟨cw_X7_keep, TB_mem (List.mem_of_getElem? (i := 1087) (by decide +kernel)) rfl, im_X7_keep, se_X7_keep, in_RX7, by decide, by decide, by decide, by decide +kernel⟩
theorem vw_X7_240 : VW RX7 240 kX7_isBottle 1 := ⟨cw_X7_isBottle, TB_mem (List.mem_of_getElem? (i := 1091) (by decide +kernel)) rfl, im_X7_isBottle, se_X7_isBottle, in_RX7, by decide, by decide, by decide, by decide +kernel⟩
theorem vw_L_79 : VW RL 79 kX7_pour 2 := ⟨cw_X7_pour, TB_mem (List.mem_of_getElem? (i := 1096) (by decide +kernel)) rfl, im_X7_pour, se_X7_pour, in_RX7, by decide, by decide, by decide, by decide +kernel⟩
theorem vw_L_83 : VW RL 83 kX7_bottle 1 := ⟨cw_X7_bottle, TB_mem (List.mem_of_getElem? (i := 1100) (by decide +kernel)) rfl, im_X7_bottle, se_X7_bottle, in_RX7, by decide, by decide, by decide, by decide +kernel⟩
theorem vw_L_87 : VW RL 87 kX7_would 0 := ⟨cw_X7_would, TB_mem (List.mem_of_getElem? (i := 1104) (by decide +kernel)) rfl, im_X7_would, se_X7_would, in_RX7, by decide, by decide, by decide, by decide +kernel⟩
theorem vw_L_91 : VW RL 91 kX7_few 2 := ⟨cw_X7_few, TB_mem (List.mem_of_getElem? (i := 1108) (by decide +kernel)) rfl, im_X7_few, se_X7_few, in_RX7, by decide, by decide, by decide, by decide +kernel⟩
theorem vw_X7_256 : VW RX7 256 kX7_fewOf 2 := ⟨cw_X7_fewOf, TB_mem (List.mem_of_getElem? (i := 1112) (by decide +kernel)) rfl, im_X7_fewOf, se_X7_fewOf, in_RX7, by decide, by decide, by decide, by decide +kernel⟩
theorem vw_X7_250 : VW RX7 250 kX7_layFew 1 := ⟨cw_X7_layFew, TB_mem (List.mem_of_getElem? (i := 1116) (by decide +kernel)) rfl, im_X7_layFew, se_X7_layFew, in_RX7, by decide, by decide, by decide, by decide +kernel⟩
theorem vw_X7_243 : VW RX7 243 kX7_isEnough 2 := ⟨cw_X7_isEnough, TB_mem (List.mem_of_getElem? (i := 1120) (by decide +kernel)) rfl, im_X7_isEnough, se_X7_isEnough, in_RX7, by decide, by decide, by decide, by decide +kernel⟩
theorem vw_X7_247 : VW RX7 247 kX7_nextRow 1 := ⟨cw_X7_nextRow, TB_mem (List.mem_of_getElem? (i := 1124) (by decide +kernel)) rfl, im_X7_nextRow, se_X7_nextRow, in_RX7, by decide, by decide, by decide, by decide +kernel⟩
theorem vw_L_95 : VW RL 95 kX7_week 2 := ⟨cw_X7_week, TB_mem (List.mem_of_getElem? (i := 1128) (by decide +kernel)) rfl, im_X7_week, se_X7_week, in_RX7, by decide, by decide, by decide, by decide +kernel⟩
theorem vw_X7_265 : VW RX7 265 kX7_weekOf 2 := ⟨cw_X7_weekOf, TB_mem (List.mem_of_getElem? (i := 1132) (by decide +kernel)) rfl, im_X7_weekOf, se_X7_weekOf, in_RX7, by decide, by decide, by decide, by decide +kernel⟩
theorem vw_X7_259 : VW RX7 259 kX7_settingBy 2 := ⟨cw_X7_settingBy, TB_mem (List.mem_of_getElem? (i := 1136) (by decide +kernel)) rfl, im_X7_settingBy, se_X7_settingBy, in_RX7, by decide, by decide, by decide, by decide +kernel⟩
theorem vw_L_99 : VW RL 99 kX7_who 1 := ⟨cw_X7_who, TB_mem (List.mem_of_getElem? (i := 1140) (by decide +kernel)) rfl, im_X7_who, se_X7_who, in_RX7, by decide, by decide, by decide, by decide +kernel⟩
theorem vw_X7_268 : VW RX7 268 kX7_whoOf 1 := ⟨cw_X7_whoOf, TB_mem (List.mem_of_getElem? (i := 1144) (by decide +kernel)) rfl, im_X7_whoOf, se_X7_whoOf, in_RX7, by decide, by decide, by decide, by decide +kernel⟩
theorem vw_L_104 : VW RL 104 kX7_see 3 := ⟨cw_X7_see, TB_mem (List.mem_of_getElem? (i := 1148) (by decide +kernel)) rfl, im_X7_see, se_X7_see, in_RX7, by decide, by decide, by decide, by decide +kernel⟩
theorem vw_L_108 : VW RL 108 kX7_forget 0 := ⟨cw_X7_forget, TB_mem (List.mem_of_getElem? (i := 1153) (by decide +kernel)) rfl, im_X7_forget, se_X7_forget, in_RX7, by decide, by decide, by decide, by decide +kernel⟩
theorem vw_L_112 : VW RL 112 kX7_weeks 3 := ⟨cw_X7_weeks, TB_mem (List.mem_of_getElem? (i := 1157) (by decide +kernel)) rfl, im_X7_weeks, se_X7_weeks, in_RX7, by decide, by decide, by decide, by decide +kernel⟩
theorem vw_X7_285 : VW RX7 285 kX7_draw 1 := ⟨cw_X7_draw, TB_mem (List.mem_of_getElem? (i := 1162) (by decide +kernel)) rfl, im_X7_draw, se_X7_draw, in_RX7, by decide, by decide, by decide, by decide +kernel⟩
theorem vw_X7_288 : VW RX7 288 kX7_sumPeople 1 := ⟨cw_X7_sumPeople, TB_mem (List.mem_of_getElem? (i := 1170) (by decide +kernel)) rfl, im_X7_sumPeople, se_X7_sumPeople, in_RX7, by decide, by decide, by decide, by decide +kernel⟩
theorem vw_L_116 : VW RL 116 kX7_image 0 := ⟨cw_X7_image, TB_mem (List.mem_of_getElem? (i := 1174) (by decide +kernel)) rfl, im_X7_image, se_X7_image, in_RX7, by decide, by decide, by decide, by decide +kernel⟩
theorem vw_L_120 : VW RL 120 kX7_restore 0 := ⟨cw_X7_restore, TB_mem (List.mem_of_getElem? (i := 1178) (by decide +kernel)) rfl, im_X7_restore, se_X7_restore, in_RX7, by decide, by decide, by decide, by decide +kernel⟩
theorem vw_L_124 : VW RL 124 kX7_count 1 := ⟨cw_X7_count, TB_mem (List.mem_of_getElem? (i := 1182) (by decide +kernel)) rfl, im_X7_count, se_X7_count, in_RX7, by decide, by decide, by decide, by decide +kernel⟩
theorem vw_X7_316 : VW RX7 316 kX7_countOf 1 := ⟨cw_X7_countOf, TB_mem (List.mem_of_getElem? (i := 1186) (by decide +kernel)) rfl, im_X7_countOf, se_X7_countOf, in_RX7, by decide, by decide, by decide, by decide +kernel⟩
theorem vw_X7_307 : VW RX7 307 kX7_setNow 0 := ⟨cw_X7_setNow, TB_mem (List.mem_of_getElem? (i := 1190) (by decide +kernel)) rfl, im_X7_setNow, se_X7_setNow, in_RX7, by decide, by decide, by decide, by decide +kernel⟩
theorem vw_X7_310 : VW RX7 310 kX7_fullBottles 0 := ⟨cw_X7_fullBottles, TB_mem (List.mem_of_getElem? (i := 1194) (by decide +kernel)) rfl, im_X7_fullBottles, se_X7_fullBottles, in_RX7, by decide, by decide, by decide, by decide +kernel⟩
theorem vw_X7_313 : VW RX7 313 kX7_countMore 1 := ⟨cw_X7_countMore, TB_mem (List.mem_of_getElem? (i := 1198) (by decide +kernel)) rfl, im_X7_countMore, se_X7_countMore, in_RX7, by decide, by decide, by decide, by decide +kernel⟩
theorem vw_L_129 : VW RL 129 kX7_digest 0 := ⟨cw_X7_digest, TB_mem (List.mem_of_getElem? (i := 1202) (by decide +kernel)) rfl, im_X7_digest, se_X7_digest, in_RX7, by decide, by decide, by decide, by decide +kernel⟩
theorem vw_X7_325 : VW RX7 325 kX7_say 1 := ⟨cw_X7_say, TB_mem (List.mem_of_getElem? (i := 1207) (by decide +kernel)) rfl, im_X7_say, se_X7_say, in_RX7, by decide, by decide, by decide, by decide +kernel⟩
theorem vw_X7_331 : VW RX7 331 kX7_sayValley 0 := ⟨cw_X7_sayValley, TB_mem (List.mem_of_getElem? (i := 1212) (by decide +kernel)) rfl, im_X7_sayValley, se_X7_sayValley, in_RX7, by decide, by decide, by decide, by decide +kernel⟩
theorem sw_X4_9 : SW RX4 9 kX6_isSlight 1 := ⟨cw_X6_isSlight, Or.inr (List.mem_filter.mpr ⟨(List.mem_of_getElem? (i := 432) (by decide +kernel)), rfl⟩), st_X6_isSlight, in_RX6, by decide, by decide, by decide, by decide +kernel⟩
theorem fl_X1_9 : FL RX1 9 1 0 := ⟨by decide, Or.inl (TB_mem (List.mem_of_getElem? (i := 86) (by decide +kernel)) rfl)⟩
theorem fl_X1_15 : FL RX1 15 1 1 := ⟨by decide, Or.inl (TB_mem (List.mem_of_getElem? (i := 87) (by decide +kernel)) rfl)⟩
theorem fl_X5_9 : FL RX5 9 4 0 := ⟨by decide, Or.inl (TB_mem (List.mem_of_getElem? (i := 102) (by decide +kernel)) rfl)⟩
theorem fl_X5_15 : FL RX5 15 4 1 := ⟨by decide, Or.inl (TB_mem (List.mem_of_getElem? (i := 104) (by decide +kernel)) rfl)⟩
theorem fl_X5_18 : FL RX5 18 4 2 := ⟨by decide, Or.inl (TB_mem (List.mem_of_getElem? (i := 106) (by decide +kernel)) rfl)⟩
theorem fl_X5_21 : FL RX5 21 4 3 := ⟨by decide, Or.inl (TB_mem (List.mem_of_getElem? (i := 107) (by decide +kernel)) rfl)⟩
theorem fl_X5_36 : FL RX5 36 4 4 := ⟨by decide, Or.inl (TB_mem (List.mem_of_getElem? (i := 109) (by decide +kernel)) rfl)⟩
theorem fl_X5_68 : FL RX5 68 4 5 := ⟨by decide, Or.inl (TB_mem (List.mem_of_getElem? (i := 112) (by decide +kernel)) rfl)⟩
theorem fl_X2_9 : FL RX2 9 2 0 := ⟨by decide, Or.inl (TB_mem (List.mem_of_getElem? (i := 140) (by decide +kernel)) rfl)⟩
theorem fl_X2_15 : FL RX2 15 2 1 := ⟨by decide, Or.inl (TB_mem (List.mem_of_getElem? (i := 141) (by decide +kernel)) rfl)⟩
theorem fl_X2_18 : FL RX2 18 2 2 := ⟨by decide, Or.inl (TB_mem (List.mem_of_getElem? (i := 142) (by decide +kernel)) rfl)⟩
theorem fl_X2_21 : FL RX2 21 2 3 := ⟨by decide, Or.inl (TB_mem (List.mem_of_getElem? (i := 143) (by decide +kernel)) rfl)⟩
theorem fl_X3_9 : FL RX3 9 3 0 := ⟨by decide, Or.inl (TB_mem (List.mem_of_getElem? (i := 155) (by decide +kernel)) rfl)⟩
theorem fl_X3_15 : FL RX3 15 3 1 := ⟨by decide, Or.inl (TB_mem (List.mem_of_getElem? (i := 159) (by decide +kernel)) rfl)⟩
theorem fl_X3_18 : FL RX3 18 3 2 := ⟨by decide, Or.inl (TB_mem (List.mem_of_getElem? (i := 163) (by decide +kernel)) rfl)⟩
theorem fl_X3_21 : FL RX3 21 3 3 := ⟨by decide, Or.inl (TB_mem (List.mem_of_getElem? (i := 165) (by decide +kernel)) rfl)⟩
theorem fl_X3_24 : FL RX3 24 3 4 := ⟨by decide, Or.inl (TB_mem (List.mem_of_getElem? (i := 167) (by decide +kernel)) rfl)⟩
theorem fl_X3_27 : FL RX3 27 3 5 := ⟨by decide, Or.inl (TB_mem (List.mem_of_getElem? (i := 168) (by decide +kernel)) rfl)⟩
theorem fl_X3_33 : FL RX3 33 3 6 := ⟨by decide, Or.inl (TB_mem (List.mem_of_getElem? (i := 169) (by decide +kernel)) rfl)⟩
theorem fl_X3_47 : FL RX3 47 3 7 := ⟨by decide, Or.inl (TB_mem (List.mem_of_getElem? (i := 171) (by decide +kernel)) rfl)⟩
theorem fl_X3_50 : FL RX3 50 3 8 := ⟨by decide, Or.inl (TB_mem (List.mem_of_getElem? (i := 174) (by decide +kernel)) rfl)⟩
theorem fl_X3_53 : FL RX3 53 3 9 := ⟨by decide, Or.inl (TB_mem (List.mem_of_getElem? (i := 176) (by decide +kernel)) rfl)⟩
theorem fl_X3_56 : FL RX3 56 3 10 := ⟨by decide, Or.inl (TB_mem (List.mem_of_getElem? (i := 178) (by decide +kernel)) rfl)⟩
theorem fl_X0_12 : FL RX0 12 0 0 := ⟨by decide, Or.inl (TB_mem (List.mem_of_getElem? (i := 213) (by decide +kernel)) rfl)⟩
theorem fl_X0_18 : FL RX0 18 0 1 := ⟨by decide, Or.inl (TB_mem (List.mem_of_getElem? (i := 215) (by decide +kernel)) rfl)⟩
theorem fl_X0_22 : FL RX0 22 0 2 := ⟨by decide, Or.inl (TB_mem (List.mem_of_getElem? (i := 216) (by decide +kernel)) rfl)⟩
theorem fl_X0_27 : FL RX0 27 0 3 := ⟨by decide, Or.inl (TB_mem (List.mem_of_getElem? (i := 217) (by decide +kernel)) rfl)⟩
theorem fl_X0_30 : FL RX0 30 0 4 := ⟨by decide, Or.inl (TB_mem (List.mem_of_getElem? (i := 218) (by decide +kernel)) rfl)⟩
theorem fl_X0_99 : FL RX0 99 0 5 := ⟨by decide, Or.inl (TB_mem (List.mem_of_getElem? (i := 220) (by decide +kernel)) rfl)⟩
theorem fl_X6_10 : FL RX6 10 5 0 := ⟨by decide, Or.inl (TB_mem (List.mem_of_getElem? (i := 235) (by decide +kernel)) rfl)⟩
theorem fl_X6_19 : FL RX6 19 5 1 := ⟨by decide, Or.inl (TB_mem (List.mem_of_getElem? (i := 236) (by decide +kernel)) rfl)⟩
theorem fl_X6_26 : FL RX6 26 5 2 := ⟨by decide, Or.inl (TB_mem (List.mem_of_getElem? (i := 237) (by decide +kernel)) rfl)⟩
theorem fl_X6_30 : FL RX6 30 5 3 := ⟨by decide, Or.inl (TB_mem (List.mem_of_getElem? (i := 238) (by decide +kernel)) rfl)⟩
theorem fl_X6_36 : FL RX6 36 5 4 := ⟨by decide, Or.inl (TB_mem (List.mem_of_getElem? (i := 239) (by decide +kernel)) rfl)⟩
theorem fl_X6_65 : FL RX6 65 5 5 := ⟨by decide, Or.inl (TB_mem (List.mem_of_getElem? (i := 240) (by decide +kernel)) rfl)⟩
theorem fl_X6_69 : FL RX6 69 5 6 := ⟨by decide, Or.inl (TB_mem (List.mem_of_getElem? (i := 241) (by decide +kernel)) rfl)⟩
theorem fl_X6_205 : FL RX6 205 5 7 := ⟨by decide, Or.inl (TB_mem (List.mem_of_getElem? (i := 242) (by decide +kernel)) rfl)⟩
theorem fl_X6_215 : FL RX6 215 5 8 := ⟨by decide, Or.inl (TB_mem (List.mem_of_getElem? (i := 243) (by decide +kernel)) rfl)⟩
theorem fl_X7_7 : FL RX7 7 6 0 := ⟨by decide, Or.inl (TB_mem (List.mem_of_getElem? (i := 773) (by decide +kernel)) rfl)⟩
theorem fl_X7_80 : FL RX7 80 6 1 := ⟨by decide, Or.inl (TB_mem (List.mem_of_getElem? (i := 774) (by decide +kernel)) rfl)⟩
theorem fl_X7_95 : FL RX7 95 6 2 := ⟨by decide, Or.inl (TB_mem (List.mem_of_getElem? (i := 775) (by decide +kernel)) rfl)⟩
theorem fl_X7_109 : FL RX7 109 6 3 := ⟨by decide, Or.inl (TB_mem (List.mem_of_getElem? (i := 776) (by decide +kernel)) rfl)⟩
theorem fl_X7_112 : FL RX7 112 6 4 := ⟨by decide, Or.inl (TB_mem (List.mem_of_getElem? (i := 777) (by decide +kernel)) rfl)⟩
theorem fl_X7_115 : FL RX7 115 6 5 := ⟨by decide, Or.inl (TB_mem (List.mem_of_getElem? (i := 778) (by decide +kernel)) rfl)⟩
theorem fl_X7_118 : FL RX7 118 6 6 := ⟨by decide, Or.inl (TB_mem (List.mem_of_getElem? (i := 779) (by decide +kernel)) rfl)⟩
theorem fl_X7_121 : FL RX7 121 6 7 := ⟨by decide, Or.inl (TB_mem (List.mem_of_getElem? (i := 780) (by decide +kernel)) rfl)⟩
theorem fl_X7_124 : FL RX7 124 6 8 := ⟨by decide, Or.inl (TB_mem (List.mem_of_getElem? (i := 781) (by decide +kernel)) rfl)⟩
theorem fl_X7_130 : FL RX7 130 6 9 := ⟨by decide, Or.inl (TB_mem (List.mem_of_getElem? (i := 782) (by decide +kernel)) rfl)⟩
theorem fl_X7_13 : FL RX7 13 6 10 := ⟨by decide, Or.inl (TB_mem (List.mem_of_getElem? (i := 783) (by decide +kernel)) rfl)⟩
theorem fl_X7_16 : FL RX7 16 6 11 := ⟨by decide, Or.inl (TB_mem (List.mem_of_getElem? (i := 784) (by decide +kernel)) rfl)⟩
theorem fl_X7_19 : FL RX7 19 6 12 := ⟨by decide, Or.inl (TB_mem (List.mem_of_getElem? (i := 785) (by decide +kernel)) rfl)⟩
theorem fl_X7_22 : FL RX7 22 6 13 := ⟨by decide, Or.inl (TB_mem (List.mem_of_getElem? (i := 786) (by decide +kernel)) rfl)⟩
theorem fl_X7_25 : FL RX7 25 6 14 := ⟨by decide, Or.inl (TB_mem (List.mem_of_getElem? (i := 787) (by decide +kernel)) rfl)⟩
theorem fl_X7_28 : FL RX7 28 6 15 := ⟨by decide, Or.inl (TB_mem (List.mem_of_getElem? (i := 788) (by decide +kernel)) rfl)⟩
theorem fl_X7_31 : FL RX7 31 6 16 := ⟨by decide, Or.inl (TB_mem (List.mem_of_getElem? (i := 789) (by decide +kernel)) rfl)⟩
theorem fl_X7_34 : FL RX7 34 6 17 := ⟨by decide, Or.inl (TB_mem (List.mem_of_getElem? (i := 790) (by decide +kernel)) rfl)⟩
theorem fl_X7_253 : FL RX7 253 6 18 := ⟨by decide, Or.inl (TB_mem (List.mem_of_getElem? (i := 791) (by decide +kernel)) rfl)⟩
theorem fl_X7_37 : FL RX7 37 6 19 := ⟨by decide, Or.inl (TB_mem (List.mem_of_getElem? (i := 792) (by decide +kernel)) rfl)⟩
theorem fl_X7_40 : FL RX7 40 6 20 := ⟨by decide, Or.inl (TB_mem (List.mem_of_getElem? (i := 793) (by decide +kernel)) rfl)⟩
theorem fl_X7_262 : FL RX7 262 6 21 := ⟨by decide, Or.inl (TB_mem (List.mem_of_getElem? (i := 794) (by decide +kernel)) rfl)⟩
theorem fl_X7_127 : FL RX7 127 6 22 := ⟨by decide, Or.inl (TB_mem (List.mem_of_getElem? (i := 795) (by decide +kernel)) rfl)⟩
theorem fl_X7_43 : FL RX7 43 6 23 := ⟨by decide, Or.inl (TB_mem (List.mem_of_getElem? (i := 796) (by decide +kernel)) rfl)⟩
theorem fl_X7_46 : FL RX7 46 6 24 := ⟨by decide, Or.inl (TB_mem (List.mem_of_getElem? (i := 797) (by decide +kernel)) rfl)⟩
theorem fl_X7_275 : FL RX7 275 6 25 := ⟨by decide, Or.inl (TB_mem (List.mem_of_getElem? (i := 798) (by decide +kernel)) rfl)⟩
theorem fl_X7_70 : FL RX7 70 6 26 := ⟨by decide, Or.inl (TB_mem (List.mem_of_getElem? (i := 799) (by decide +kernel)) rfl)⟩
theorem fl_X7_292 : FL RX7 292 6 27 := ⟨by decide, Or.inl (TB_mem (List.mem_of_getElem? (i := 800) (by decide +kernel)) rfl)⟩
theorem fl_X7_295 : FL RX7 295 6 28 := ⟨by decide, Or.inl (TB_mem (List.mem_of_getElem? (i := 801) (by decide +kernel)) rfl)⟩
theorem fl_X7_298 : FL RX7 298 6 29 := ⟨by decide, Or.inl (TB_mem (List.mem_of_getElem? (i := 802) (by decide +kernel)) rfl)⟩
theorem fl_X7_301 : FL RX7 301 6 30 := ⟨by decide, Or.inl (TB_mem (List.mem_of_getElem? (i := 803) (by decide +kernel)) rfl)⟩
theorem fl_X7_304 : FL RX7 304 6 31 := ⟨by decide, Or.inl (TB_mem (List.mem_of_getElem? (i := 804) (by decide +kernel)) rfl)⟩
theorem fl_X7_49 : FL RX7 49 6 32 := ⟨by decide, Or.inl (TB_mem (List.mem_of_getElem? (i := 805) (by decide +kernel)) rfl)⟩
theorem fl_X7_52 : FL RX7 52 6 33 := ⟨by decide, Or.inl (TB_mem (List.mem_of_getElem? (i := 806) (by decide +kernel)) rfl)⟩
theorem fl_X7_55 : FL RX7 55 6 34 := ⟨by decide, Or.inl (TB_mem (List.mem_of_getElem? (i := 807) (by decide +kernel)) rfl)⟩
theorem fl_X7_58 : FL RX7 58 6 35 := ⟨by decide, Or.inl (TB_mem (List.mem_of_getElem? (i := 808) (by decide +kernel)) rfl)⟩
theorem fl_X7_61 : FL RX7 61 6 36 := ⟨by decide, Or.inl (TB_mem (List.mem_of_getElem? (i := 809) (by decide +kernel)) rfl)⟩
theorem fl_X7_64 : FL RX7 64 6 37 := ⟨by decide, Or.inl (TB_mem (List.mem_of_getElem? (i := 810) (by decide +kernel)) rfl)⟩
theorem fl_X7_67 : FL RX7 67 6 38 := ⟨by decide, Or.inl (TB_mem (List.mem_of_getElem? (i := 811) (by decide +kernel)) rfl)⟩
theorem fl_X7_321 : FL RX7 321 6 39 := ⟨by decide, Or.inl (TB_mem (List.mem_of_getElem? (i := 812) (by decide +kernel)) rfl)⟩
theorem fl_X6_40 : FL RX6 40 1 1 := ⟨by decide, Or.inr (List.mem_filter.mpr ⟨(List.mem_of_getElem? (i := 88) (by decide +kernel)), rfl⟩)⟩
theorem fl_X5_65 : FL RX5 65 1 1 := ⟨by decide, Or.inr (List.mem_filter.mpr ⟨(List.mem_of_getElem? (i := 89) (by decide +kernel)), rfl⟩)⟩
theorem fl_X6_86 : FL RX6 86 4 0 := ⟨by decide, Or.inr (List.mem_filter.mpr ⟨(List.mem_of_getElem? (i := 103) (by decide +kernel)), rfl⟩)⟩
theorem fl_X6_90 : FL RX6 90 4 1 := ⟨by decide, Or.inr (List.mem_filter.mpr ⟨(List.mem_of_getElem? (i := 105) (by decide +kernel)), rfl⟩)⟩
theorem fl_X6_130 : FL RX6 130 4 3 := ⟨by decide, Or.inr (List.mem_filter.mpr ⟨(List.mem_of_getElem? (i := 108) (by decide +kernel)), rfl⟩)⟩
theorem fl_X0_102 : FL RX0 102 4 4 := ⟨by decide, Or.inr (List.mem_filter.mpr ⟨(List.mem_of_getElem? (i := 110) (by decide +kernel)), rfl⟩)⟩
theorem fl_X6_244 : FL RX6 244 4 4 := ⟨by decide, Or.inr (List.mem_filter.mpr ⟨(List.mem_of_getElem? (i := 111) (by decide +kernel)), rfl⟩)⟩
theorem fl_X6_72 : FL RX6 72 4 5 := ⟨by decide, Or.inr (List.mem_filter.mpr ⟨(List.mem_of_getElem? (i := 113) (by decide +kernel)), rfl⟩)⟩
theorem fl_X0_93 : FL RX0 93 4 5 := ⟨by decide, Or.inr (List.mem_filter.mpr ⟨(List.mem_of_getElem? (i := 114) (by decide +kernel)), rfl⟩)⟩
theorem fl_X3_43 : FL RX3 43 2 3 := ⟨by decide, Or.inr (List.mem_filter.mpr ⟨(List.mem_of_getElem? (i := 144) (by decide +kernel)), rfl⟩)⟩
theorem fl_X6_224 : FL RX6 224 2 3 := ⟨by decide, Or.inr (List.mem_filter.mpr ⟨(List.mem_of_getElem? (i := 145) (by decide +kernel)), rfl⟩)⟩
theorem fl_X6_96 : FL RX6 96 3 0 := ⟨by decide, Or.inr (List.mem_filter.mpr ⟨(List.mem_of_getElem? (i := 156) (by decide +kernel)), rfl⟩)⟩
theorem fl_X0_83 : FL RX0 83 3 0 := ⟨by decide, Or.inr (List.mem_filter.mpr ⟨(List.mem_of_getElem? (i := 157) (by decide +kernel)), rfl⟩)⟩
theorem fl_X5_75 : FL RX5 75 3 0 := ⟨by decide, Or.inr (List.mem_filter.mpr ⟨(List.mem_of_getElem? (i := 158) (by decide +kernel)), rfl⟩)⟩
theorem fl_X0_44 : FL RX0 44 3 1 := ⟨by decide, Or.inr (List.mem_filter.mpr ⟨(List.mem_of_getElem? (i := 160) (by decide +kernel)), rfl⟩)⟩
theorem fl_X5_54 : FL RX5 54 3 1 := ⟨by decide, Or.inr (List.mem_filter.mpr ⟨(List.mem_of_getElem? (i := 161) (by decide +kernel)), rfl⟩)⟩
theorem fl_X6_93 : FL RX6 93 3 1 := ⟨by decide, Or.inr (List.mem_filter.mpr ⟨(List.mem_of_getElem? (i := 162) (by decide +kernel)), rfl⟩)⟩
theorem fl_X6_99 : FL RX6 99 3 2 := ⟨by decide, Or.inr (List.mem_filter.mpr ⟨(List.mem_of_getElem? (i := 164) (by decide +kernel)), rfl⟩)⟩
theorem fl_X6_192 : FL RX6 192 3 3 := ⟨by decide, Or.inr (List.mem_filter.mpr ⟨(List.mem_of_getElem? (i := 166) (by decide +kernel)), rfl⟩)⟩
theorem fl_X6_109 : FL RX6 109 3 6 := ⟨by decide, Or.inr (List.mem_filter.mpr ⟨(List.mem_of_getElem? (i := 170) (by decide +kernel)), rfl⟩)⟩
theorem fl_X0_86 : FL RX0 86 3 7 := ⟨by decide, Or.inr (List.mem_filter.mpr ⟨(List.mem_of_getElem? (i := 172) (by decide +kernel)), rfl⟩)⟩
theorem fl_X6_186 : FL RX6 186 3 7 := ⟨by decide, Or.inr (List.mem_filter.mpr ⟨(List.mem_of_getElem? (i := 173) (by decide +kernel)), rfl⟩)⟩
theorem fl_X6_175 : FL RX6 175 3 8 := ⟨by decide, Or.inr (List.mem_filter.mpr ⟨(List.mem_of_getElem? (i := 175) (by decide +kernel)), rfl⟩)⟩
theorem fl_X6_164 : FL RX6 164 3 9 := ⟨by decide, Or.inr (List.mem_filter.mpr ⟨(List.mem_of_getElem? (i := 177) (by decide +kernel)), rfl⟩)⟩
theorem fl_X6_183 : FL RX6 183 3 10 := ⟨by decide, Or.inr (List.mem_filter.mpr ⟨(List.mem_of_getElem? (i := 179) (by decide +kernel)), rfl⟩)⟩
theorem fl_X6_232 : FL RX6 232 0 0 := ⟨by decide, Or.inr (List.mem_filter.mpr ⟨(List.mem_of_getElem? (i := 214) (by decide +kernel)), rfl⟩)⟩
theorem fl_X6_106 : FL RX6 106 0 4 := ⟨by decide, Or.inr (List.mem_filter.mpr ⟨(List.mem_of_getElem? (i := 219) (by decide +kernel)), rfl⟩)⟩
theorem fl_X6_238 : FL RX6 238 0 5 := ⟨by decide, Or.inr (List.mem_filter.mpr ⟨(List.mem_of_getElem? (i := 221) (by decide +kernel)), rfl⟩)⟩
theorem kc_J2_227 : Cond.constant RJ2 227 (65536) ∈ TB := TB_mem (List.mem_of_getElem? (i := 354) (by decide +kernel)) rfl
theorem kc_J11_110 : Cond.constant RJ11 110 (55232) ∈ TB := TB_mem (List.mem_of_getElem? (i := 393) (by decide +kernel)) rfl
theorem kc_J11_76 : Cond.constant RJ11 76 (56320) ∈ TB := TB_mem (List.mem_of_getElem? (i := 397) (by decide +kernel)) rfl
theorem kc_J6_265 : Cond.constant RJ6 265 (1431655765) ∈ TB := TB_mem (List.mem_of_getElem? (i := 485) (by decide +kernel)) rfl
theorem kc_J6_266 : Cond.constant RJ6 266 (858993459) ∈ TB := TB_mem (List.mem_of_getElem? (i := 486) (by decide +kernel)) rfl
theorem kc_J6_267 : Cond.constant RJ6 267 (252645135) ∈ TB := TB_mem (List.mem_of_getElem? (i := 487) (by decide +kernel)) rfl
theorem kc_X0_114 : Cond.constant RX0 114 (65536) ∈ TB := TB_mem (List.mem_of_getElem? (i := 718) (by decide +kernel)) rfl
theorem kc_X7_282 : Cond.constant RX7 282 (65536) ∈ TB := TB_mem (List.mem_of_getElem? (i := 1169) (by decide +kernel)) rfl
theorem kc_X0_108 : Cond.constantLong RX0 108 (1103515245) ∈ TB := TB_mem (List.mem_of_getElem? (i := 715) (by decide +kernel)) rfl
theorem kc_X0_110 : Cond.constantLong RX0 110 (12345) ∈ TB := TB_mem (List.mem_of_getElem? (i := 716) (by decide +kernel)) rfl
theorem kc_X0_112 : Cond.constantLong RX0 112 (2147483648) ∈ TB := TB_mem (List.mem_of_getElem? (i := 717) (by decide +kernel)) rfl
theorem kc_X6_253 : Cond.constantLong RX6 253 (1123) ∈ TB := TB_mem (List.mem_of_getElem? (i := 757) (by decide +kernel)) rfl
theorem kc_X6_255 : Cond.constantLong RX6 255 (31) ∈ TB := TB_mem (List.mem_of_getElem? (i := 758) (by decide +kernel)) rfl
theorem kc_X7_74 : Cond.constantLong RX7 74 (126) ∈ TB := TB_mem (List.mem_of_getElem? (i := 898) (by decide +kernel)) rfl
theorem kc_X7_87 : Cond.constantLong RX7 87 (49) ∈ TB := TB_mem (List.mem_of_getElem? (i := 918) (by decide +kernel)) rfl
theorem kc_X7_89 : Cond.constantLong RX7 89 (57) ∈ TB := TB_mem (List.mem_of_getElem? (i := 919) (by decide +kernel)) rfl
theorem kc_X7_91 : Cond.constantLong RX7 91 (48) ∈ TB := TB_mem (List.mem_of_getElem? (i := 927) (by decide +kernel)) rfl
theorem kc_X7_93 : Cond.constantLong RX7 93 (53) ∈ TB := TB_mem (List.mem_of_getElem? (i := 928) (by decide +kernel)) rfl
theorem kc_X7_172 : Cond.constantLong RX7 172 (10) ∈ TB := TB_mem (List.mem_of_getElem? (i := 945) (by decide +kernel)) rfl
theorem kc_X7_174 : Cond.constantLong RX7 174 (12) ∈ TB := TB_mem (List.mem_of_getElem? (i := 946) (by decide +kernel)) rfl
theorem kc_X7_194 : Cond.constantLong RX7 194 (4) ∈ TB := TB_mem (List.mem_of_getElem? (i := 998) (by decide +kernel)) rfl
theorem kc_X7_231 : Cond.constantLong RX7 231 (2) ∈ TB := TB_mem (List.mem_of_getElem? (i := 1049) (by decide +kernel)) rfl
theorem kc_X7_137 : Cond.constantLong RX7 137 (5) ∈ TB := TB_mem (List.mem_of_getElem? (i := 1066) (by decide +kernel)) rfl
theorem kc_X7_139 : Cond.constantLong RX7 139 (3) ∈ TB := TB_mem (List.mem_of_getElem? (i := 1095) (by decide +kernel)) rfl
theorem kc_X7_271 : Cond.constantLong RX7 271 (99) ∈ TB := TB_mem (List.mem_of_getElem? (i := 1152) (by decide +kernel)) rfl
theorem kc_X7_283 : Cond.constantLong RX7 283 (60) ∈ TB := TB_mem (List.mem_of_getElem? (i := 1161) (by decide +kernel)) rfl
theorem kc_X7_273 : Cond.constantLong RX7 273 (1103515245) ∈ TB := TB_mem (List.mem_of_getElem? (i := 1166) (by decide +kernel)) rfl
theorem kc_X7_278 : Cond.constantLong RX7 278 (12345) ∈ TB := TB_mem (List.mem_of_getElem? (i := 1167) (by decide +kernel)) rfl
theorem kc_X7_280 : Cond.constantLong RX7 280 (2147483647) ∈ TB := TB_mem (List.mem_of_getElem? (i := 1168) (by decide +kernel)) rfl
theorem kc_X7_329 : Cond.constantLong RX7 329 (1123) ∈ TB := TB_mem (List.mem_of_getElem? (i := 1206) (by decide +kernel)) rfl
theorem kc_X7_319 : Cond.constantLong RX7 319 (31) ∈ TB := TB_mem (List.mem_of_getElem? (i := 1211) (by decide +kernel)) rfl
theorem ml_J1_92 : Cond.methodLink RJ1 92 Lib.Math.max.name ∈ TB := TB_mem (List.mem_of_getElem? (i := 340) (by decide +kernel)) rfl
theorem ml_J1_38 : Cond.methodLink RJ1 38 Lib.Math.min.name ∈ TB := TB_mem (List.mem_of_getElem? (i := 343) (by decide +kernel)) rfl
theorem ml_J2_224 : Cond.methodLink RJ2 224 Lib.Math.max.name ∈ TB := TB_mem (List.mem_of_getElem? (i := 352) (by decide +kernel)) rfl
theorem ml_J2_183 : Cond.methodLink RJ2 183 Lib.Math.min.name ∈ TB := TB_mem (List.mem_of_getElem? (i := 353) (by decide +kernel)) rfl
theorem ml_X5_30 : Cond.methodLink RX5 30 Lib.Math.min.name ∈ TB := TB_mem (List.mem_of_getElem? (i := 424) (by decide +kernel)) rfl
theorem ml_X3_59 : Cond.methodLink RX3 59 arraycopyName ∈ TB := TB_mem (List.mem_of_getElem? (i := 468) (by decide +kernel)) rfl
theorem ml_X4_37 : Cond.methodLink RX4 37 Lib.Math.max.name ∈ TB := TB_mem (List.mem_of_getElem? (i := 510) (by decide +kernel)) rfl
theorem ml_X0_77 : Cond.methodLink RX0 77 arraycopyName ∈ TB := TB_mem (List.mem_of_getElem? (i := 665) (by decide +kernel)) rfl
theorem ml_X2_25 : Cond.methodLink RX2 25 arraycopyName ∈ TB := TB_mem (List.mem_of_getElem? (i := 738) (by decide +kernel)) rfl
theorem mm_st_max : Cond.static Lib.Math.max.name ∈ TB := TB_mem (List.mem_of_getElem? (i := 341) (by decide +kernel)) rfl
theorem mm_st_min : Cond.static Lib.Math.min.name ∈ TB := TB_mem (List.mem_of_getElem? (i := 344) (by decide +kernel)) rfl
theorem sc_st : Cond.static arraycopyName ∈ TB := TB_mem (List.mem_of_getElem? (i := 469) (by decide +kernel)) rfl
theorem sc_na : Cond.native arraycopyName ∈ TB := TB_mem (List.mem_of_getElem? (i := 470) (by decide +kernel)) rfl
theorem sc_in : Cond.initialized "java/lang/System" ∈ TB := TB_mem (List.mem_of_getElem? (i := 70) (by decide +kernel)) rfl
theorem mm_in : Cond.initialized "java/lang/Math" ∈ TB := TB_mem (List.mem_of_getElem? (i := 64) (by decide +kernel)) rfl
theorem mm_cw_max : Cond.code Lib.Math.max.name Lib.Math.max.code 2 (some .int) ∈ TB := TB_mem (List.mem_of_getElem? (i := 342) (by decide +kernel)) rfl
theorem mm_cw_min : Cond.code Lib.Math.min.name Lib.Math.min.code 2 (some .int) ∈ TB := TB_mem (List.mem_of_getElem? (i := 345) (by decide +kernel)) rfl
theorem fl_worths : Cond.fieldLinkNest RX4 13 "GrudgeRennet" "WORTHS" "[I" "GrudgeRennet" ∈ nsT := List.mem_filter.mpr ⟨(List.mem_of_getElem? (i := 435) (by decide +kernel)), rfl⟩
