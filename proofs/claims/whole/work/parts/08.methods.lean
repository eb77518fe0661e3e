/-! the methods: name, code, locals, answer, how deep it calls; what the tables say of each, by place -/
theorem in_RL : Cond.initialized RL ∈ tb := List.mem_filter.mpr ⟨List.mem_of_getElem? (i := 56) (by decide +kernel), by decide +kernel⟩
theorem in_RX5 : Cond.initialized RX5 ∈ tb := List.mem_filter.mpr ⟨List.mem_of_getElem? (i := 57) (by decide +kernel), by decide +kernel⟩
theorem in_RX1 : Cond.initialized RX1 ∈ tb := List.mem_filter.mpr ⟨List.mem_of_getElem? (i := 58) (by decide +kernel), by decide +kernel⟩
theorem in_RX0 : Cond.initialized RX0 ∈ tb := List.mem_filter.mpr ⟨List.mem_of_getElem? (i := 59) (by decide +kernel), by decide +kernel⟩
theorem in_RX3 : Cond.initialized RX3 ∈ tb := List.mem_filter.mpr ⟨List.mem_of_getElem? (i := 60) (by decide +kernel), by decide +kernel⟩
theorem in_RX4 : Cond.initialized RX4 ∈ tb := List.mem_filter.mpr ⟨List.mem_of_getElem? (i := 61) (by decide +kernel), by decide +kernel⟩
theorem in_RX2 : Cond.initialized RX2 ∈ tb := List.mem_filter.mpr ⟨List.mem_of_getElem? (i := 62) (by decide +kernel), by decide +kernel⟩
theorem in_RX6 : Cond.initialized RX6 ∈ tb := List.mem_filter.mpr ⟨List.mem_of_getElem? (i := 63) (by decide +kernel), by decide +kernel⟩
theorem in_RJ9 : Cond.initialized RJ9 ∈ tb := List.mem_filter.mpr ⟨List.mem_of_getElem? (i := 64) (by decide +kernel), by decide +kernel⟩
theorem in_RJ10 : Cond.initialized RJ10 ∈ tb := List.mem_filter.mpr ⟨List.mem_of_getElem? (i := 65) (by decide +kernel), by decide +kernel⟩
theorem in_RJ6 : Cond.initialized RJ6 ∈ tb := List.mem_filter.mpr ⟨List.mem_of_getElem? (i := 66) (by decide +kernel), by decide +kernel⟩
theorem in_RJ0 : Cond.initialized RJ0 ∈ tb := List.mem_filter.mpr ⟨List.mem_of_getElem? (i := 67) (by decide +kernel), by decide +kernel⟩
theorem in_RJ1 : Cond.initialized RJ1 ∈ tb := List.mem_filter.mpr ⟨List.mem_of_getElem? (i := 68) (by decide +kernel), by decide +kernel⟩
theorem in_RJ3 : Cond.initialized RJ3 ∈ tb := List.mem_filter.mpr ⟨List.mem_of_getElem? (i := 69) (by decide +kernel), by decide +kernel⟩
theorem in_RJ2 : Cond.initialized RJ2 ∈ tb := List.mem_filter.mpr ⟨List.mem_of_getElem? (i := 70) (by decide +kernel), by decide +kernel⟩
def mX0_mayBe : MT := (yX0_mayBe, cX0_mayBe, 2, some .boolean, 1)
theorem okX0_mayBe : MOK mX0_mayBe 2 := ⟨List.mem_filter.mpr ⟨List.mem_of_getElem? (i := 253) (by decide +kernel), by decide +kernel⟩, in_RX0, by decide +kernel⟩
theorem stX0_mayBe : Cond.static mX0_mayBe.1 ∈ tb := List.mem_filter.mpr ⟨List.mem_of_getElem? (i := 252) (by decide +kernel), by decide +kernel⟩
def mX0_begin : MT := (yX0_begin, cX0_begin, 3, none, 0)
theorem okX0_begin : MOK mX0_begin 2 := ⟨List.mem_filter.mpr ⟨List.mem_of_getElem? (i := 270) (by decide +kernel), by decide +kernel⟩, in_RX0, by decide +kernel⟩
theorem voX0_begin : VOK mX0_begin := ⟨List.mem_filter.mpr ⟨List.mem_of_getElem? (i := 268) (by decide +kernel), by decide +kernel⟩, List.mem_filter.mpr ⟨List.mem_of_getElem? (i := 269) (by decide +kernel), by decide +kernel⟩⟩
def mX0_becomes : MT := (yX0_becomes, cX0_becomes, 2, none, 0)
theorem okX0_becomes : MOK mX0_becomes 1 := ⟨List.mem_filter.mpr ⟨List.mem_of_getElem? (i := 445) (by decide +kernel), by decide +kernel⟩, in_RX0, by decide +kernel⟩
theorem voX0_becomes : VOK mX0_becomes := ⟨List.mem_filter.mpr ⟨List.mem_of_getElem? (i := 443) (by decide +kernel), by decide +kernel⟩, List.mem_filter.mpr ⟨List.mem_of_getElem? (i := 444) (by decide +kernel), by decide +kernel⟩⟩
def mX0_told : MT := (yX0_told, cX0_told, 2, some .int, 0)
theorem okX0_told : MOK mX0_told 1 := ⟨List.mem_filter.mpr ⟨List.mem_of_getElem? (i := 307) (by decide +kernel), by decide +kernel⟩, in_RX0, by decide +kernel⟩
theorem voX0_told : VOK mX0_told := ⟨List.mem_filter.mpr ⟨List.mem_of_getElem? (i := 305) (by decide +kernel), by decide +kernel⟩, List.mem_filter.mpr ⟨List.mem_of_getElem? (i := 306) (by decide +kernel), by decide +kernel⟩⟩
def mX0_alter : MT := (yX0_alter, cX0_alter, 3, none, 0)
theorem okX0_alter : MOK mX0_alter 2 := ⟨List.mem_filter.mpr ⟨List.mem_of_getElem? (i := 315) (by decide +kernel), by decide +kernel⟩, in_RX0, by decide +kernel⟩
theorem voX0_alter : VOK mX0_alter := ⟨List.mem_filter.mpr ⟨List.mem_of_getElem? (i := 313) (by decide +kernel), by decide +kernel⟩, List.mem_filter.mpr ⟨List.mem_of_getElem? (i := 314) (by decide +kernel), by decide +kernel⟩⟩
def mX0_isOfKind : MT := (yX0_isOfKind, cX0_isOfKind, 4, some .boolean, 0)
theorem okX0_isOfKind : MOK mX0_isOfKind 1 := ⟨List.mem_filter.mpr ⟨List.mem_of_getElem? (i := 729) (by decide +kernel), by decide +kernel⟩, in_RX0, by decide +kernel⟩
theorem voX0_isOfKind : VOK mX0_isOfKind := ⟨List.mem_filter.mpr ⟨List.mem_of_getElem? (i := 727) (by decide +kernel), by decide +kernel⟩, List.mem_filter.mpr ⟨List.mem_of_getElem? (i := 728) (by decide +kernel), by decide +kernel⟩⟩
def mX0_reapsOf : MT := (yX0_reapsOf, cX0_reapsOf, 7, some .int, 1)
theorem okX0_reapsOf : MOK mX0_reapsOf 2 := ⟨List.mem_filter.mpr ⟨List.mem_of_getElem? (i := 283) (by decide +kernel), by decide +kernel⟩, in_RX0, by decide +kernel⟩
theorem voX0_reapsOf : VOK mX0_reapsOf := ⟨List.mem_filter.mpr ⟨List.mem_of_getElem? (i := 281) (by decide +kernel), by decide +kernel⟩, List.mem_filter.mpr ⟨List.mem_of_getElem? (i := 282) (by decide +kernel), by decide +kernel⟩⟩
def mX0_daysIn : MT := (yX0_daysIn, cX0_daysIn, 10, some .int, 2)
theorem okX0_daysIn : MOK mX0_daysIn 1 := ⟨List.mem_filter.mpr ⟨List.mem_of_getElem? (i := 290) (by decide +kernel), by decide +kernel⟩, in_RX0, by decide +kernel⟩
theorem voX0_daysIn : VOK mX0_daysIn := ⟨List.mem_filter.mpr ⟨List.mem_of_getElem? (i := 288) (by decide +kernel), by decide +kernel⟩, List.mem_filter.mpr ⟨List.mem_of_getElem? (i := 289) (by decide +kernel), by decide +kernel⟩⟩
def mX0_leftBehind : MT := (yX0_leftBehind, cX0_leftBehind, 11, some .int, 2)
theorem okX0_leftBehind : MOK mX0_leftBehind 2 := ⟨List.mem_filter.mpr ⟨List.mem_of_getElem? (i := 323) (by decide +kernel), by decide +kernel⟩, in_RX0, by decide +kernel⟩
theorem voX0_leftBehind : VOK mX0_leftBehind := ⟨List.mem_filter.mpr ⟨List.mem_of_getElem? (i := 321) (by decide +kernel), by decide +kernel⟩, List.mem_filter.mpr ⟨List.mem_of_getElem? (i := 322) (by decide +kernel), by decide +kernel⟩⟩
def mX0_daysDownTo : MT := (yX0_daysDownTo, cX0_daysDownTo, 3, some .int, 0)
theorem okX0_daysDownTo : MOK mX0_daysDownTo 3 := ⟨List.mem_filter.mpr ⟨List.mem_of_getElem? (i := 296) (by decide +kernel), by decide +kernel⟩, in_RX0, by decide +kernel⟩
theorem stX0_daysDownTo : Cond.static mX0_daysDownTo.1 ∈ tb := List.mem_filter.mpr ⟨List.mem_of_getElem? (i := 295) (by decide +kernel), by decide +kernel⟩
def mX0_tells : MT := (yX0_tells, cX0_tells, 1, some .int, 1)
theorem okX0_tells : MOK mX0_tells 0 := ⟨List.mem_filter.mpr ⟨List.mem_of_getElem? (i := 300) (by decide +kernel), by decide +kernel⟩, in_RX0, by decide +kernel⟩
theorem voX0_tells : VOK mX0_tells := ⟨List.mem_filter.mpr ⟨List.mem_of_getElem? (i := 298) (by decide +kernel), by decide +kernel⟩, List.mem_filter.mpr ⟨List.mem_of_getElem? (i := 299) (by decide +kernel), by decide +kernel⟩⟩
def mX0_hasTheSheaf : MT := (yX0_hasTheSheaf, cX0_hasTheSheaf, 1, none, 1)
theorem okX0_hasTheSheaf : MOK mX0_hasTheSheaf 0 := ⟨List.mem_filter.mpr ⟨List.mem_of_getElem? (i := 399) (by decide +kernel), by decide +kernel⟩, in_RX0, by decide +kernel⟩
theorem voX0_hasTheSheaf : VOK mX0_hasTheSheaf := ⟨List.mem_filter.mpr ⟨List.mem_of_getElem? (i := 397) (by decide +kernel), by decide +kernel⟩, List.mem_filter.mpr ⟨List.mem_of_getElem? (i := 398) (by decide +kernel), by decide +kernel⟩⟩
def mX0_losesHand : MT := (yX0_losesHand, cX0_losesHand, 1, none, 1)
theorem okX0_losesHand : MOK mX0_losesHand 0 := ⟨List.mem_filter.mpr ⟨List.mem_of_getElem? (i := 404) (by decide +kernel), by decide +kernel⟩, in_RX0, by decide +kernel⟩
theorem voX0_losesHand : VOK mX0_losesHand := ⟨List.mem_filter.mpr ⟨List.mem_of_getElem? (i := 402) (by decide +kernel), by decide +kernel⟩, List.mem_filter.mpr ⟨List.mem_of_getElem? (i := 403) (by decide +kernel), by decide +kernel⟩⟩
def mX0_heeds : MT := (yX0_heeds, cX0_heeds, 2, none, 1)
theorem okX0_heeds : MOK mX0_heeds 1 := ⟨List.mem_filter.mpr ⟨List.mem_of_getElem? (i := 408) (by decide +kernel), by decide +kernel⟩, in_RX0, by decide +kernel⟩
theorem voX0_heeds : VOK mX0_heeds := ⟨List.mem_filter.mpr ⟨List.mem_of_getElem? (i := 406) (by decide +kernel), by decide +kernel⟩, List.mem_filter.mpr ⟨List.mem_of_getElem? (i := 407) (by decide +kernel), by decide +kernel⟩⟩
def mX1_becomes : MT := (yX1_becomes, cX1_becomes, 3, none, 1)
theorem okX1_becomes : MOK mX1_becomes 1 := ⟨List.mem_filter.mpr ⟨List.mem_of_getElem? (i := 438) (by decide +kernel), by decide +kernel⟩, in_RX1, by decide +kernel⟩
theorem voX1_becomes : VOK mX1_becomes := ⟨List.mem_filter.mpr ⟨List.mem_of_getElem? (i := 436) (by decide +kernel), by decide +kernel⟩, List.mem_filter.mpr ⟨List.mem_of_getElem? (i := 437) (by decide +kernel), by decide +kernel⟩⟩
def mX1_hasFarm : MT := (yX1_hasFarm, cX1_hasFarm, 2, some .boolean, 1)
theorem okX1_hasFarm : MOK mX1_hasFarm 1 := ⟨List.mem_filter.mpr ⟨List.mem_of_getElem? (i := 278) (by decide +kernel), by decide +kernel⟩, in_RX1, by decide +kernel⟩
theorem voX1_hasFarm : VOK mX1_hasFarm := ⟨List.mem_filter.mpr ⟨List.mem_of_getElem? (i := 276) (by decide +kernel), by decide +kernel⟩, List.mem_filter.mpr ⟨List.mem_of_getElem? (i := 277) (by decide +kernel), by decide +kernel⟩⟩
def mX1_isFull : MT := (yX1_isFull, cX1_isFull, 1, some .boolean, 0)
theorem okX1_isFull : MOK mX1_isFull 0 := ⟨List.mem_filter.mpr ⟨List.mem_of_getElem? (i := 262) (by decide +kernel), by decide +kernel⟩, in_RX1, by decide +kernel⟩
theorem voX1_isFull : VOK mX1_isFull := ⟨List.mem_filter.mpr ⟨List.mem_of_getElem? (i := 260) (by decide +kernel), by decide +kernel⟩, List.mem_filter.mpr ⟨List.mem_of_getElem? (i := 261) (by decide +kernel), by decide +kernel⟩⟩
def mX1_addFarm : MT := (yX1_addFarm, cX1_addFarm, 4, some .int, 1)
theorem okX1_addFarm : MOK mX1_addFarm 2 := ⟨List.mem_filter.mpr ⟨List.mem_of_getElem? (i := 266) (by decide +kernel), by decide +kernel⟩, in_RX1, by decide +kernel⟩
theorem voX1_addFarm : VOK mX1_addFarm := ⟨List.mem_filter.mpr ⟨List.mem_of_getElem? (i := 264) (by decide +kernel), by decide +kernel⟩, List.mem_filter.mpr ⟨List.mem_of_getElem? (i := 265) (by decide +kernel), by decide +kernel⟩⟩
def mX1_mostDays : MT := (yX1_mostDays, cX1_mostDays, 3, some .int, 3)
theorem okX1_mostDays : MOK mX1_mostDays 0 := ⟨List.mem_filter.mpr ⟨List.mem_of_getElem? (i := 353) (by decide +kernel), by decide +kernel⟩, in_RX1, by decide +kernel⟩
theorem voX1_mostDays : VOK mX1_mostDays := ⟨List.mem_filter.mpr ⟨List.mem_of_getElem? (i := 351) (by decide +kernel), by decide +kernel⟩, List.mem_filter.mpr ⟨List.mem_of_getElem? (i := 352) (by decide +kernel), by decide +kernel⟩⟩
def mX1_latest : MT := (yX1_latest, cX1_latest, 1, some .int, 4)
theorem okX1_latest : MOK mX1_latest 0 := ⟨List.mem_filter.mpr ⟨List.mem_of_getElem? (i := 331) (by decide +kernel), by decide +kernel⟩, in_RX1, by decide +kernel⟩
theorem voX1_latest : VOK mX1_latest := ⟨List.mem_filter.mpr ⟨List.mem_of_getElem? (i := 329) (by decide +kernel), by decide +kernel⟩, List.mem_filter.mpr ⟨List.mem_of_getElem? (i := 330) (by decide +kernel), by decide +kernel⟩⟩
def mX1_latestBelow : MT := (yX1_latestBelow, cX1_latestBelow, 6, some .int, 3)
theorem okX1_latestBelow : MOK mX1_latestBelow 1 := ⟨List.mem_filter.mpr ⟨List.mem_of_getElem? (i := 336) (by decide +kernel), by decide +kernel⟩, in_RX1, by decide +kernel⟩
theorem voX1_latestBelow : VOK mX1_latestBelow := ⟨List.mem_filter.mpr ⟨List.mem_of_getElem? (i := 334) (by decide +kernel), by decide +kernel⟩, List.mem_filter.mpr ⟨List.mem_of_getElem? (i := 335) (by decide +kernel), by decide +kernel⟩⟩
def mX1_earliest : MT := (yX1_earliest, cX1_earliest, 5, some .int, 3)
theorem okX1_earliest : MOK mX1_earliest 0 := ⟨List.mem_filter.mpr ⟨List.mem_of_getElem? (i := 345) (by decide +kernel), by decide +kernel⟩, in_RX1, by decide +kernel⟩
theorem voX1_earliest : VOK mX1_earliest := ⟨List.mem_filter.mpr ⟨List.mem_of_getElem? (i := 343) (by decide +kernel), by decide +kernel⟩, List.mem_filter.mpr ⟨List.mem_of_getElem? (i := 344) (by decide +kernel), by decide +kernel⟩⟩
def mX1_isLatest : MT := (yX1_isLatest, cX1_isLatest, 2, some .boolean, 4)
theorem okX1_isLatest : MOK mX1_isLatest 1 := ⟨List.mem_filter.mpr ⟨List.mem_of_getElem? (i := 461) (by decide +kernel), by decide +kernel⟩, in_RX1, by decide +kernel⟩
theorem voX1_isLatest : VOK mX1_isLatest := ⟨List.mem_filter.mpr ⟨List.mem_of_getElem? (i := 459) (by decide +kernel), by decide +kernel⟩, List.mem_filter.mpr ⟨List.mem_of_getElem? (i := 460) (by decide +kernel), by decide +kernel⟩⟩
def mX1_leanNow : MT := (yX1_leanNow, cX1_leanNow, 1, some .int, 4)
theorem okX1_leanNow : MOK mX1_leanNow 0 := ⟨List.mem_filter.mpr ⟨List.mem_of_getElem? (i := 363) (by decide +kernel), by decide +kernel⟩, in_RX1, by decide +kernel⟩
theorem voX1_leanNow : VOK mX1_leanNow := ⟨List.mem_filter.mpr ⟨List.mem_of_getElem? (i := 361) (by decide +kernel), by decide +kernel⟩, List.mem_filter.mpr ⟨List.mem_of_getElem? (i := 362) (by decide +kernel), by decide +kernel⟩⟩
def mX1_leanBy : MT := (yX1_leanBy, cX1_leanBy, 5, some .int, 2)
theorem okX1_leanBy : MOK mX1_leanBy 1 := ⟨List.mem_filter.mpr ⟨List.mem_of_getElem? (i := 367) (by decide +kernel), by decide +kernel⟩, in_RX1, by decide +kernel⟩
theorem voX1_leanBy : VOK mX1_leanBy := ⟨List.mem_filter.mpr ⟨List.mem_of_getElem? (i := 365) (by decide +kernel), by decide +kernel⟩, List.mem_filter.mpr ⟨List.mem_of_getElem? (i := 366) (by decide +kernel), by decide +kernel⟩⟩
def mX1_answerTo : MT := (yX1_answerTo, cX1_answerTo, 2, some .int, 4)
theorem okX1_answerTo : MOK mX1_answerTo 1 := ⟨List.mem_filter.mpr ⟨List.mem_of_getElem? (i := 385) (by decide +kernel), by decide +kernel⟩, in_RX1, by decide +kernel⟩
theorem voX1_answerTo : VOK mX1_answerTo := ⟨List.mem_filter.mpr ⟨List.mem_of_getElem? (i := 383) (by decide +kernel), by decide +kernel⟩, List.mem_filter.mpr ⟨List.mem_of_getElem? (i := 384) (by decide +kernel), by decide +kernel⟩⟩
def mX1_passYear : MT := (yX1_passYear, cX1_passYear, 6, none, 4)
theorem okX1_passYear : MOK mX1_passYear 0 := ⟨List.mem_filter.mpr ⟨List.mem_of_getElem? (i := 394) (by decide +kernel), by decide +kernel⟩, in_RX1, by decide +kernel⟩
theorem voX1_passYear : VOK mX1_passYear := ⟨List.mem_filter.mpr ⟨List.mem_of_getElem? (i := 392) (by decide +kernel), by decide +kernel⟩, List.mem_filter.mpr ⟨List.mem_of_getElem? (i := 393) (by decide +kernel), by decide +kernel⟩⟩
def mX1_together : MT := (yX1_together, cX1_together, 4, some .int, 1)
theorem okX1_together : MOK mX1_together 1 := ⟨List.mem_filter.mpr ⟨List.mem_of_getElem? (i := 418) (by decide +kernel), by decide +kernel⟩, in_RX1, by decide +kernel⟩
theorem voX1_together : VOK mX1_together := ⟨List.mem_filter.mpr ⟨List.mem_of_getElem? (i := 416) (by decide +kernel), by decide +kernel⟩, List.mem_filter.mpr ⟨List.mem_of_getElem? (i := 417) (by decide +kernel), by decide +kernel⟩⟩
def mX1_whoHadIt : MT := (yX1_whoHadIt, cX1_whoHadIt, 3, some .int, 0)
theorem okX1_whoHadIt : MOK mX1_whoHadIt 0 := ⟨List.mem_filter.mpr ⟨List.mem_of_getElem? (i := 423) (by decide +kernel), by decide +kernel⟩, in_RX1, by decide +kernel⟩
theorem voX1_whoHadIt : VOK mX1_whoHadIt := ⟨List.mem_filter.mpr ⟨List.mem_of_getElem? (i := 421) (by decide +kernel), by decide +kernel⟩, List.mem_filter.mpr ⟨List.mem_of_getElem? (i := 422) (by decide +kernel), by decide +kernel⟩⟩
def mX1_spotsHeld : MT := (yX1_spotsHeld, cX1_spotsHeld, 6, some .int, 0)
theorem okX1_spotsHeld : MOK mX1_spotsHeld 0 := ⟨List.mem_filter.mpr ⟨List.mem_of_getElem? (i := 788) (by decide +kernel), by decide +kernel⟩, in_RX1, by decide +kernel⟩
theorem voX1_spotsHeld : VOK mX1_spotsHeld := ⟨List.mem_filter.mpr ⟨List.mem_of_getElem? (i := 786) (by decide +kernel), by decide +kernel⟩, List.mem_filter.mpr ⟨List.mem_of_getElem? (i := 787) (by decide +kernel), by decide +kernel⟩⟩
def mX1_draw : MT := (yX1_draw, cX1_draw, 1, some .int, 0)
theorem okX1_draw : MOK mX1_draw 0 := ⟨List.mem_filter.mpr ⟨List.mem_of_getElem? (i := 567) (by decide +kernel), by decide +kernel⟩, in_RX1, by decide +kernel⟩
theorem voX1_draw : VOK mX1_draw := ⟨List.mem_filter.mpr ⟨List.mem_of_getElem? (i := 565) (by decide +kernel), by decide +kernel⟩, List.mem_filter.mpr ⟨List.mem_of_getElem? (i := 566) (by decide +kernel), by decide +kernel⟩⟩
def mX2_mayHave : MT := (yX2_mayHave, cX2_mayHave, 1, some .boolean, 0)
theorem okX2_mayHave : MOK mX2_mayHave 1 := ⟨List.mem_filter.mpr ⟨List.mem_of_getElem? (i := 738) (by decide +kernel), by decide +kernel⟩, in_RX2, by decide +kernel⟩
theorem stX2_mayHave : Cond.static mX2_mayHave.1 ∈ tb := List.mem_filter.mpr ⟨List.mem_of_getElem? (i := 737) (by decide +kernel), by decide +kernel⟩
def mX2_begin : MT := (yX2_begin, cX2_begin, 4, none, 0)
theorem okX2_begin : MOK mX2_begin 2 := ⟨List.mem_filter.mpr ⟨List.mem_of_getElem? (i := 742) (by decide +kernel), by decide +kernel⟩, in_RX2, by decide +kernel⟩
theorem voX2_begin : VOK mX2_begin := ⟨List.mem_filter.mpr ⟨List.mem_of_getElem? (i := 740) (by decide +kernel), by decide +kernel⟩, List.mem_filter.mpr ⟨List.mem_of_getElem? (i := 741) (by decide +kernel), by decide +kernel⟩⟩
def mX2_isMissing : MT := (yX2_isMissing, cX2_isMissing, 1, some .boolean, 0)
theorem okX2_isMissing : MOK mX2_isMissing 0 := ⟨List.mem_filter.mpr ⟨List.mem_of_getElem? (i := 551) (by decide +kernel), by decide +kernel⟩, in_RX2, by decide +kernel⟩
theorem voX2_isMissing : VOK mX2_isMissing := ⟨List.mem_filter.mpr ⟨List.mem_of_getElem? (i := 549) (by decide +kernel), by decide +kernel⟩, List.mem_filter.mpr ⟨List.mem_of_getElem? (i := 550) (by decide +kernel), by decide +kernel⟩⟩
def mX2_put : MT := (yX2_put, cX2_put, 3, none, 0)
theorem okX2_put : MOK mX2_put 2 := ⟨List.mem_filter.mpr ⟨List.mem_of_getElem? (i := 750) (by decide +kernel), by decide +kernel⟩, in_RX2, by decide +kernel⟩
theorem voX2_put : VOK mX2_put := ⟨List.mem_filter.mpr ⟨List.mem_of_getElem? (i := 748) (by decide +kernel), by decide +kernel⟩, List.mem_filter.mpr ⟨List.mem_of_getElem? (i := 749) (by decide +kernel), by decide +kernel⟩⟩
def mX2_hasRow : MT := (yX2_hasRow, cX2_hasRow, 3, some .boolean, 0)
theorem okX2_hasRow : MOK mX2_hasRow 2 := ⟨List.mem_filter.mpr ⟨List.mem_of_getElem? (i := 758) (by decide +kernel), by decide +kernel⟩, in_RX2, by decide +kernel⟩
theorem voX2_hasRow : VOK mX2_hasRow := ⟨List.mem_filter.mpr ⟨List.mem_of_getElem? (i := 756) (by decide +kernel), by decide +kernel⟩, List.mem_filter.mpr ⟨List.mem_of_getElem? (i := 757) (by decide +kernel), by decide +kernel⟩⟩
def mX3_add : MT := (yX3_add, cX3_add, 2, none, 0)
theorem okX3_add : MOK mX3_add 1 := ⟨List.mem_filter.mpr ⟨List.mem_of_getElem? (i := 586) (by decide +kernel), by decide +kernel⟩, in_RX3, by decide +kernel⟩
theorem voX3_add : VOK mX3_add := ⟨List.mem_filter.mpr ⟨List.mem_of_getElem? (i := 584) (by decide +kernel), by decide +kernel⟩, List.mem_filter.mpr ⟨List.mem_of_getElem? (i := 585) (by decide +kernel), by decide +kernel⟩⟩
def mX3_lookFromBegin : MT := (yX3_lookFromBegin, cX3_lookFromBegin, 1, none, 2)
theorem okX3_lookFromBegin : MOK mX3_lookFromBegin 0 := ⟨List.mem_filter.mpr ⟨List.mem_of_getElem? (i := 602) (by decide +kernel), by decide +kernel⟩, in_RX3, by decide +kernel⟩
theorem voX3_lookFromBegin : VOK mX3_lookFromBegin := ⟨List.mem_filter.mpr ⟨List.mem_of_getElem? (i := 600) (by decide +kernel), by decide +kernel⟩, List.mem_filter.mpr ⟨List.mem_of_getElem? (i := 601) (by decide +kernel), by decide +kernel⟩⟩
def mX3_advance : MT := (yX3_advance, cX3_advance, 1, none, 1)
theorem okX3_advance : MOK mX3_advance 0 := ⟨List.mem_filter.mpr ⟨List.mem_of_getElem? (i := 606) (by decide +kernel), by decide +kernel⟩, in_RX3, by decide +kernel⟩
theorem voX3_advance : VOK mX3_advance := ⟨List.mem_filter.mpr ⟨List.mem_of_getElem? (i := 604) (by decide +kernel), by decide +kernel⟩, List.mem_filter.mpr ⟨List.mem_of_getElem? (i := 605) (by decide +kernel), by decide +kernel⟩⟩
def mX3_sortOfSign : MT := (yX3_sortOfSign, cX3_sortOfSign, 1, some .int, 0)
theorem okX3_sortOfSign : MOK mX3_sortOfSign 1 := ⟨List.mem_filter.mpr ⟨List.mem_of_getElem? (i := 616) (by decide +kernel), by decide +kernel⟩, in_RX3, by decide +kernel⟩
theorem stX3_sortOfSign : Cond.static mX3_sortOfSign.1 ∈ tb := List.mem_filter.mpr ⟨List.mem_of_getElem? (i := 615) (by decide +kernel), by decide +kernel⟩
def mX3_isLetter : MT := (yX3_isLetter, cX3_isLetter, 1, some .boolean, 0)
theorem okX3_isLetter : MOK mX3_isLetter 1 := ⟨List.mem_filter.mpr ⟨List.mem_of_getElem? (i := 609) (by decide +kernel), by decide +kernel⟩, in_RX3, by decide +kernel⟩
theorem stX3_isLetter : Cond.static mX3_isLetter.1 ∈ tb := List.mem_filter.mpr ⟨List.mem_of_getElem? (i := 608) (by decide +kernel), by decide +kernel⟩
def mX3_isDigit : MT := (yX3_isDigit, cX3_isDigit, 1, some .boolean, 0)
theorem okX3_isDigit : MOK mX3_isDigit 1 := ⟨List.mem_filter.mpr ⟨List.mem_of_getElem? (i := 612) (by decide +kernel), by decide +kernel⟩, in_RX3, by decide +kernel⟩
theorem stX3_isDigit : Cond.static mX3_isDigit.1 ∈ tb := List.mem_filter.mpr ⟨List.mem_of_getElem? (i := 611) (by decide +kernel), by decide +kernel⟩
def mX3_isNumber : MT := (yX3_isNumber, cX3_isNumber, 3, some .boolean, 1)
theorem okX3_isNumber : MOK mX3_isNumber 2 := ⟨List.mem_filter.mpr ⟨List.mem_of_getElem? (i := 694) (by decide +kernel), by decide +kernel⟩, in_RX3, by decide +kernel⟩
theorem voX3_isNumber : VOK mX3_isNumber := ⟨List.mem_filter.mpr ⟨List.mem_of_getElem? (i := 692) (by decide +kernel), by decide +kernel⟩, List.mem_filter.mpr ⟨List.mem_of_getElem? (i := 693) (by decide +kernel), by decide +kernel⟩⟩
def mX3_isWord : MT := (yX3_isWord, cX3_isWord, 3, some .boolean, 5)
theorem okX3_isWord : MOK mX3_isWord 1 := ⟨List.mem_filter.mpr ⟨List.mem_of_getElem? (i := 634) (by decide +kernel), by decide +kernel⟩, in_RX3, by decide +kernel⟩
theorem voX3_isWord : VOK mX3_isWord := ⟨List.mem_filter.mpr ⟨List.mem_of_getElem? (i := 632) (by decide +kernel), by decide +kernel⟩, List.mem_filter.mpr ⟨List.mem_of_getElem? (i := 633) (by decide +kernel), by decide +kernel⟩⟩
def mX4_readItems : MT := (yX4_readItems, cX4_readItems, 2, some .int, 9)
theorem okX4_readItems : MOK mX4_readItems 0 := ⟨List.mem_filter.mpr ⟨List.mem_of_getElem? (i := 598) (by decide +kernel), by decide +kernel⟩, in_RX4, by decide +kernel⟩
theorem voX4_readItems : VOK mX4_readItems := ⟨List.mem_filter.mpr ⟨List.mem_of_getElem? (i := 596) (by decide +kernel), by decide +kernel⟩, List.mem_filter.mpr ⟨List.mem_of_getElem? (i := 597) (by decide +kernel), by decide +kernel⟩⟩
def mX4_readsItem : MT := (yX4_readsItem, cX4_readsItem, 2, some .boolean, 8)
theorem okX4_readsItem : MOK mX4_readsItem 0 := ⟨List.mem_filter.mpr ⟨List.mem_of_getElem? (i := 620) (by decide +kernel), by decide +kernel⟩, in_RX4, by decide +kernel⟩
theorem voX4_readsItem : VOK mX4_readsItem := ⟨List.mem_filter.mpr ⟨List.mem_of_getElem? (i := 619) (by decide +kernel), by decide +kernel⟩, List.mem_filter.mpr ⟨List.mem_of_getElem? (i := 7) (by decide +kernel), by decide +kernel⟩⟩
def mX4_readsWeather : MT := (yX4_readsWeather, cX4_readsWeather, 2, some .boolean, 2)
theorem okX4_readsWeather : MOK mX4_readsWeather 1 := ⟨List.mem_filter.mpr ⟨List.mem_of_getElem? (i := 717) (by decide +kernel), by decide +kernel⟩, in_RX4, by decide +kernel⟩
theorem voX4_readsWeather : VOK mX4_readsWeather := ⟨List.mem_filter.mpr ⟨List.mem_of_getElem? (i := 716) (by decide +kernel), by decide +kernel⟩, List.mem_filter.mpr ⟨List.mem_of_getElem? (i := 11) (by decide +kernel), by decide +kernel⟩⟩
def mX4_readsFarm : MT := (yX4_readsFarm, cX4_readsFarm, 3, some .boolean, 7)
theorem okX4_readsFarm : MOK mX4_readsFarm 1 := ⟨List.mem_filter.mpr ⟨List.mem_of_getElem? (i := 687) (by decide +kernel), by decide +kernel⟩, in_RX4, by decide +kernel⟩
theorem voX4_readsFarm : VOK mX4_readsFarm := ⟨List.mem_filter.mpr ⟨List.mem_of_getElem? (i := 686) (by decide +kernel), by decide +kernel⟩, List.mem_filter.mpr ⟨List.mem_of_getElem? (i := 8) (by decide +kernel), by decide +kernel⟩⟩
def mX4_readsHands : MT := (yX4_readsHands, cX4_readsHands, 2, some .boolean, 6)
theorem okX4_readsHands : MOK mX4_readsHands 1 := ⟨List.mem_filter.mpr ⟨List.mem_of_getElem? (i := 700) (by decide +kernel), by decide +kernel⟩, in_RX4, by decide +kernel⟩
theorem voX4_readsHands : VOK mX4_readsHands := ⟨List.mem_filter.mpr ⟨List.mem_of_getElem? (i := 699) (by decide +kernel), by decide +kernel⟩, List.mem_filter.mpr ⟨List.mem_of_getElem? (i := 9) (by decide +kernel), by decide +kernel⟩⟩
def mX4_readsOpinion : MT := (yX4_readsOpinion, cX4_readsOpinion, 3, some .boolean, 6)
theorem okX4_readsOpinion : MOK mX4_readsOpinion 1 := ⟨List.mem_filter.mpr ⟨List.mem_of_getElem? (i := 706) (by decide +kernel), by decide +kernel⟩, in_RX4, by decide +kernel⟩
theorem voX4_readsOpinion : VOK mX4_readsOpinion := ⟨List.mem_filter.mpr ⟨List.mem_of_getElem? (i := 705) (by decide +kernel), by decide +kernel⟩, List.mem_filter.mpr ⟨List.mem_of_getElem? (i := 10) (by decide +kernel), by decide +kernel⟩⟩
def mX4_wordOfKind : MT := (yX4_wordOfKind, cX4_wordOfKind, 1, some (.object "java/lang/String"), 0)
theorem okX4_wordOfKind : MOK mX4_wordOfKind 1 := ⟨List.mem_filter.mpr ⟨List.mem_of_getElem? (i := 623) (by decide +kernel), by decide +kernel⟩, in_RX4, by decide +kernel⟩
theorem stX4_wordOfKind : Cond.static mX4_wordOfKind.1 ∈ tb := List.mem_filter.mpr ⟨List.mem_of_getElem? (i := 622) (by decide +kernel), by decide +kernel⟩
def mX4_wordOfWeather : MT := (yX4_wordOfWeather, cX4_wordOfWeather, 1, some (.object "java/lang/String"), 0)
theorem okX4_wordOfWeather : MOK mX4_wordOfWeather 1 := ⟨List.mem_filter.mpr ⟨List.mem_of_getElem? (i := 710) (by decide +kernel), by decide +kernel⟩, in_RX4, by decide +kernel⟩
theorem stX4_wordOfWeather : Cond.static mX4_wordOfWeather.1 ∈ tb := List.mem_filter.mpr ⟨List.mem_of_getElem? (i := 709) (by decide +kernel), by decide +kernel⟩
def mX5_weather : MT := (yX5_weather, cX5_weather, 4, some .int, 2)
theorem okX5_weather : MOK mX5_weather 2 := ⟨List.mem_filter.mpr ⟨List.mem_of_getElem? (i := 238) (by decide +kernel), by decide +kernel⟩, in_RX5, by decide +kernel⟩
theorem voX5_weather : VOK mX5_weather := ⟨List.mem_filter.mpr ⟨List.mem_of_getElem? (i := 236) (by decide +kernel), by decide +kernel⟩, List.mem_filter.mpr ⟨List.mem_of_getElem? (i := 237) (by decide +kernel), by decide +kernel⟩⟩
def mX5_farm : MT := (yX5_farm, cX5_farm, 3, some .int, 2)
theorem okX5_farm : MOK mX5_farm 2 := ⟨List.mem_filter.mpr ⟨List.mem_of_getElem? (i := 250) (by decide +kernel), by decide +kernel⟩, in_RX5, by decide +kernel⟩
theorem voX5_farm : VOK mX5_farm := ⟨List.mem_filter.mpr ⟨List.mem_of_getElem? (i := 248) (by decide +kernel), by decide +kernel⟩, List.mem_filter.mpr ⟨List.mem_of_getElem? (i := 249) (by decide +kernel), by decide +kernel⟩⟩
def mX5_of : MT := (yX5_of, cX5_of, 5, some .int, 3)
theorem okX5_of : MOK mX5_of 2 := ⟨List.mem_filter.mpr ⟨List.mem_of_getElem? (i := 274) (by decide +kernel), by decide +kernel⟩, in_RX5, by decide +kernel⟩
theorem voX5_of : VOK mX5_of := ⟨List.mem_filter.mpr ⟨List.mem_of_getElem? (i := 272) (by decide +kernel), by decide +kernel⟩, List.mem_filter.mpr ⟨List.mem_of_getElem? (i := 273) (by decide +kernel), by decide +kernel⟩⟩
def mX5_change : MT := (yX5_change, cX5_change, 6, some .int, 2)
theorem okX5_change : MOK mX5_change 3 := ⟨List.mem_filter.mpr ⟨List.mem_of_getElem? (i := 311) (by decide +kernel), by decide +kernel⟩, in_RX5, by decide +kernel⟩
theorem voX5_change : VOK mX5_change := ⟨List.mem_filter.mpr ⟨List.mem_of_getElem? (i := 309) (by decide +kernel), by decide +kernel⟩, List.mem_filter.mpr ⟨List.mem_of_getElem? (i := 310) (by decide +kernel), by decide +kernel⟩⟩
def mX5_left : MT := (yX5_left, cX5_left, 3, some .int, 3)
theorem okX5_left : MOK mX5_left 2 := ⟨List.mem_filter.mpr ⟨List.mem_of_getElem? (i := 319) (by decide +kernel), by decide +kernel⟩, in_RX5, by decide +kernel⟩
theorem voX5_left : VOK mX5_left := ⟨List.mem_filter.mpr ⟨List.mem_of_getElem? (i := 317) (by decide +kernel), by decide +kernel⟩, List.mem_filter.mpr ⟨List.mem_of_getElem? (i := 318) (by decide +kernel), by decide +kernel⟩⟩
def mX5_last : MT := (yX5_last, cX5_last, 1, some .int, 5)
theorem okX5_last : MOK mX5_last 0 := ⟨List.mem_filter.mpr ⟨List.mem_of_getElem? (i := 327) (by decide +kernel), by decide +kernel⟩, in_RX5, by decide +kernel⟩
theorem voX5_last : VOK mX5_last := ⟨List.mem_filter.mpr ⟨List.mem_of_getElem? (i := 325) (by decide +kernel), by decide +kernel⟩, List.mem_filter.mpr ⟨List.mem_of_getElem? (i := 326) (by decide +kernel), by decide +kernel⟩⟩
def mX5_first : MT := (yX5_first, cX5_first, 1, some .int, 4)
theorem okX5_first : MOK mX5_first 0 := ⟨List.mem_filter.mpr ⟨List.mem_of_getElem? (i := 341) (by decide +kernel), by decide +kernel⟩, in_RX5, by decide +kernel⟩
theorem voX5_first : VOK mX5_first := ⟨List.mem_filter.mpr ⟨List.mem_of_getElem? (i := 339) (by decide +kernel), by decide +kernel⟩, List.mem_filter.mpr ⟨List.mem_of_getElem? (i := 340) (by decide +kernel), by decide +kernel⟩⟩
def mX5_next : MT := (yX5_next, cX5_next, 1, some .int, 4)
theorem okX5_next : MOK mX5_next 0 := ⟨List.mem_filter.mpr ⟨List.mem_of_getElem? (i := 349) (by decide +kernel), by decide +kernel⟩, in_RX5, by decide +kernel⟩
theorem voX5_next : VOK mX5_next := ⟨List.mem_filter.mpr ⟨List.mem_of_getElem? (i := 347) (by decide +kernel), by decide +kernel⟩, List.mem_filter.mpr ⟨List.mem_of_getElem? (i := 348) (by decide +kernel), by decide +kernel⟩⟩
def mX5_lean : MT := (yX5_lean, cX5_lean, 1, some .int, 5)
theorem okX5_lean : MOK mX5_lean 0 := ⟨List.mem_filter.mpr ⟨List.mem_of_getElem? (i := 359) (by decide +kernel), by decide +kernel⟩, in_RX5, by decide +kernel⟩
theorem voX5_lean : VOK mX5_lean := ⟨List.mem_filter.mpr ⟨List.mem_of_getElem? (i := 357) (by decide +kernel), by decide +kernel⟩, List.mem_filter.mpr ⟨List.mem_of_getElem? (i := 358) (by decide +kernel), by decide +kernel⟩⟩
def mX5_answer : MT := (yX5_answer, cX5_answer, 2, some .int, 5)
theorem okX5_answer : MOK mX5_answer 1 := ⟨List.mem_filter.mpr ⟨List.mem_of_getElem? (i := 378) (by decide +kernel), by decide +kernel⟩, in_RX5, by decide +kernel⟩
theorem voX5_answer : VOK mX5_answer := ⟨List.mem_filter.mpr ⟨List.mem_of_getElem? (i := 376) (by decide +kernel), by decide +kernel⟩, List.mem_filter.mpr ⟨List.mem_of_getElem? (i := 377) (by decide +kernel), by decide +kernel⟩⟩
def mX5_go : MT := (yX5_go, cX5_go, 3, some .int, 5)
theorem okX5_go : MOK mX5_go 1 := ⟨List.mem_filter.mpr ⟨List.mem_of_getElem? (i := 389) (by decide +kernel), by decide +kernel⟩, in_RX5, by decide +kernel⟩
theorem voX5_go : VOK mX5_go := ⟨List.mem_filter.mpr ⟨List.mem_of_getElem? (i := 387) (by decide +kernel), by decide +kernel⟩, List.mem_filter.mpr ⟨List.mem_of_getElem? (i := 388) (by decide +kernel), by decide +kernel⟩⟩
def mX5_now : MT := (yX5_now, cX5_now, 2, some .int, 4)
theorem okX5_now : MOK mX5_now 1 := ⟨List.mem_filter.mpr ⟨List.mem_of_getElem? (i := 414) (by decide +kernel), by decide +kernel⟩, in_RX5, by decide +kernel⟩
theorem voX5_now : VOK mX5_now := ⟨List.mem_filter.mpr ⟨List.mem_of_getElem? (i := 412) (by decide +kernel), by decide +kernel⟩, List.mem_filter.mpr ⟨List.mem_of_getElem? (i := 413) (by decide +kernel), by decide +kernel⟩⟩
def mX5_holder : MT := (yX5_holder, cX5_holder, 2, some .int, 6)
theorem okX5_holder : MOK mX5_holder 1 := ⟨List.mem_filter.mpr ⟨List.mem_of_getElem? (i := 427) (by decide +kernel), by decide +kernel⟩, in_RX5, by decide +kernel⟩
theorem voX5_holder : VOK mX5_holder := ⟨List.mem_filter.mpr ⟨List.mem_of_getElem? (i := 425) (by decide +kernel), by decide +kernel⟩, List.mem_filter.mpr ⟨List.mem_of_getElem? (i := 426) (by decide +kernel), by decide +kernel⟩⟩
def mX5_ahead : MT := (yX5_ahead, cX5_ahead, 4, some .int, 6)
theorem okX5_ahead : MOK mX5_ahead 3 := ⟨List.mem_filter.mpr ⟨List.mem_of_getElem? (i := 449) (by decide +kernel), by decide +kernel⟩, in_RX5, by decide +kernel⟩
theorem voX5_ahead : VOK mX5_ahead := ⟨List.mem_filter.mpr ⟨List.mem_of_getElem? (i := 447) (by decide +kernel), by decide +kernel⟩, List.mem_filter.mpr ⟨List.mem_of_getElem? (i := 448) (by decide +kernel), by decide +kernel⟩⟩
def mX5_leans : MT := (yX5_leans, cX5_leans, 2, some .int, 6)
theorem okX5_leans : MOK mX5_leans 1 := ⟨List.mem_filter.mpr ⟨List.mem_of_getElem? (i := 453) (by decide +kernel), by decide +kernel⟩, in_RX5, by decide +kernel⟩
theorem voX5_leans : VOK mX5_leans := ⟨List.mem_filter.mpr ⟨List.mem_of_getElem? (i := 451) (by decide +kernel), by decide +kernel⟩, List.mem_filter.mpr ⟨List.mem_of_getElem? (i := 452) (by decide +kernel), by decide +kernel⟩⟩
def mX5_when : MT := (yX5_when, cX5_when, 3, some .int, 5)
theorem okX5_when : MOK mX5_when 1 := ⟨List.mem_filter.mpr ⟨List.mem_of_getElem? (i := 457) (by decide +kernel), by decide +kernel⟩, in_RX5, by decide +kernel⟩
theorem voX5_when : VOK mX5_when := ⟨List.mem_filter.mpr ⟨List.mem_of_getElem? (i := 455) (by decide +kernel), by decide +kernel⟩, List.mem_filter.mpr ⟨List.mem_of_getElem? (i := 456) (by decide +kernel), by decide +kernel⟩⟩
def mX5_tie : MT := (yX5_tie, cX5_tie, 2, some .int, 5)
theorem okX5_tie : MOK mX5_tie 0 := ⟨List.mem_filter.mpr ⟨List.mem_of_getElem? (i := 465) (by decide +kernel), by decide +kernel⟩, in_RX5, by decide +kernel⟩
theorem voX5_tie : VOK mX5_tie := ⟨List.mem_filter.mpr ⟨List.mem_of_getElem? (i := 463) (by decide +kernel), by decide +kernel⟩, List.mem_filter.mpr ⟨List.mem_of_getElem? (i := 464) (by decide +kernel), by decide +kernel⟩⟩
def mX5_turns : MT := (yX5_turns, cX5_turns, 4, some .int, 5)
theorem okX5_turns : MOK mX5_turns 1 := ⟨List.mem_filter.mpr ⟨List.mem_of_getElem? (i := 475) (by decide +kernel), by decide +kernel⟩, in_RX5, by decide +kernel⟩
theorem voX5_turns : VOK mX5_turns := ⟨List.mem_filter.mpr ⟨List.mem_of_getElem? (i := 473) (by decide +kernel), by decide +kernel⟩, List.mem_filter.mpr ⟨List.mem_of_getElem? (i := 474) (by decide +kernel), by decide +kernel⟩⟩
def mX5_mostHands : MT := (yX5_mostHands, cX5_mostHands, 3, some .int, 5)
theorem okX5_mostHands : MOK mX5_mostHands 1 := ⟨List.mem_filter.mpr ⟨List.mem_of_getElem? (i := 479) (by decide +kernel), by decide +kernel⟩, in_RX5, by decide +kernel⟩
theorem voX5_mostHands : VOK mX5_mostHands := ⟨List.mem_filter.mpr ⟨List.mem_of_getElem? (i := 477) (by decide +kernel), by decide +kernel⟩, List.mem_filter.mpr ⟨List.mem_of_getElem? (i := 478) (by decide +kernel), by decide +kernel⟩⟩
def mX5_fewestHands : MT := (yX5_fewestHands, cX5_fewestHands, 3, some .int, 4)
theorem okX5_fewestHands : MOK mX5_fewestHands 1 := ⟨List.mem_filter.mpr ⟨List.mem_of_getElem? (i := 485) (by decide +kernel), by decide +kernel⟩, in_RX5, by decide +kernel⟩
theorem voX5_fewestHands : VOK mX5_fewestHands := ⟨List.mem_filter.mpr ⟨List.mem_of_getElem? (i := 483) (by decide +kernel), by decide +kernel⟩, List.mem_filter.mpr ⟨List.mem_of_getElem? (i := 484) (by decide +kernel), by decide +kernel⟩⟩
def mX5_lend : MT := (yX5_lend, cX5_lend, 4, some .int, 6)
theorem okX5_lend : MOK mX5_lend 1 := ⟨List.mem_filter.mpr ⟨List.mem_of_getElem? (i := 490) (by decide +kernel), by decide +kernel⟩, in_RX5, by decide +kernel⟩
theorem voX5_lend : VOK mX5_lend := ⟨List.mem_filter.mpr ⟨List.mem_of_getElem? (i := 488) (by decide +kernel), by decide +kernel⟩, List.mem_filter.mpr ⟨List.mem_of_getElem? (i := 489) (by decide +kernel), by decide +kernel⟩⟩
def mX5_isLatestIfLent : MT := (yX5_isLatestIfLent, cX5_isLatestIfLent, 6, some .boolean, 5)
theorem okX5_isLatestIfLent : MOK mX5_isLatestIfLent 3 := ⟨List.mem_filter.mpr ⟨List.mem_of_getElem? (i := 494) (by decide +kernel), by decide +kernel⟩, in_RX5, by decide +kernel⟩
theorem voX5_isLatestIfLent : VOK mX5_isLatestIfLent := ⟨List.mem_filter.mpr ⟨List.mem_of_getElem? (i := 493) (by decide +kernel), by decide +kernel⟩, List.mem_filter.mpr ⟨List.mem_of_getElem? (i := 2) (by decide +kernel), by decide +kernel⟩⟩
def mX5_kinds : MT := (yX5_kinds, cX5_kinds, 4, some .int, 5)
theorem okX5_kinds : MOK mX5_kinds 1 := ⟨List.mem_filter.mpr ⟨List.mem_of_getElem? (i := 498) (by decide +kernel), by decide +kernel⟩, in_RX5, by decide +kernel⟩
theorem voX5_kinds : VOK mX5_kinds := ⟨List.mem_filter.mpr ⟨List.mem_of_getElem? (i := 496) (by decide +kernel), by decide +kernel⟩, List.mem_filter.mpr ⟨List.mem_of_getElem? (i := 497) (by decide +kernel), by decide +kernel⟩⟩
def mX5_wetFor : MT := (yX5_wetFor, cX5_wetFor, 3, some .int, 5)
theorem okX5_wetFor : MOK mX5_wetFor 1 := ⟨List.mem_filter.mpr ⟨List.mem_of_getElem? (i := 502) (by decide +kernel), by decide +kernel⟩, in_RX5, by decide +kernel⟩
theorem voX5_wetFor : VOK mX5_wetFor := ⟨List.mem_filter.mpr ⟨List.mem_of_getElem? (i := 500) (by decide +kernel), by decide +kernel⟩, List.mem_filter.mpr ⟨List.mem_of_getElem? (i := 501) (by decide +kernel), by decide +kernel⟩⟩
def mX5_tell : MT := (yX5_tell, cX5_tell, 6, some .int, 5)
theorem okX5_tell : MOK mX5_tell 2 := ⟨List.mem_filter.mpr ⟨List.mem_of_getElem? (i := 506) (by decide +kernel), by decide +kernel⟩, in_RX5, by decide +kernel⟩
theorem voX5_tell : VOK mX5_tell := ⟨List.mem_filter.mpr ⟨List.mem_of_getElem? (i := 504) (by decide +kernel), by decide +kernel⟩, List.mem_filter.mpr ⟨List.mem_of_getElem? (i := 505) (by decide +kernel), by decide +kernel⟩⟩
def mX5_tryOpinion : MT := (yX5_tryOpinion, cX5_tryOpinion, 4, none, 1)
theorem okX5_tryOpinion : MOK mX5_tryOpinion 2 := ⟨List.mem_filter.mpr ⟨List.mem_of_getElem? (i := 510) (by decide +kernel), by decide +kernel⟩, in_RX5, by decide +kernel⟩
theorem voX5_tryOpinion : VOK mX5_tryOpinion := ⟨List.mem_filter.mpr ⟨List.mem_of_getElem? (i := 509) (by decide +kernel), by decide +kernel⟩, List.mem_filter.mpr ⟨List.mem_of_getElem? (i := 3) (by decide +kernel), by decide +kernel⟩⟩
def mX5_voice : MT := (yX5_voice, cX5_voice, 7, some .int, 5)
theorem okX5_voice : MOK mX5_voice 0 := ⟨List.mem_filter.mpr ⟨List.mem_of_getElem? (i := 515) (by decide +kernel), by decide +kernel⟩, in_RX5, by decide +kernel⟩
theorem voX5_voice : VOK mX5_voice := ⟨List.mem_filter.mpr ⟨List.mem_of_getElem? (i := 513) (by decide +kernel), by decide +kernel⟩, List.mem_filter.mpr ⟨List.mem_of_getElem? (i := 514) (by decide +kernel), by decide +kernel⟩⟩
def mX5_miceFor : MT := (yX5_miceFor, cX5_miceFor, 4, some .int, 5)
theorem okX5_miceFor : MOK mX5_miceFor 2 := ⟨List.mem_filter.mpr ⟨List.mem_of_getElem? (i := 520) (by decide +kernel), by decide +kernel⟩, in_RX5, by decide +kernel⟩
theorem voX5_miceFor : VOK mX5_miceFor := ⟨List.mem_filter.mpr ⟨List.mem_of_getElem? (i := 518) (by decide +kernel), by decide +kernel⟩, List.mem_filter.mpr ⟨List.mem_of_getElem? (i := 519) (by decide +kernel), by decide +kernel⟩⟩
def mX5_wins : MT := (yX5_wins, cX5_wins, 3, some .int, 2)
theorem okX5_wins : MOK mX5_wins 2 := ⟨List.mem_filter.mpr ⟨List.mem_of_getElem? (i := 524) (by decide +kernel), by decide +kernel⟩, in_RX5, by decide +kernel⟩
theorem voX5_wins : VOK mX5_wins := ⟨List.mem_filter.mpr ⟨List.mem_of_getElem? (i := 522) (by decide +kernel), by decide +kernel⟩, List.mem_filter.mpr ⟨List.mem_of_getElem? (i := 523) (by decide +kernel), by decide +kernel⟩⟩
def mX5_cut : MT := (yX5_cut, cX5_cut, 4, some .int, 2)
theorem okX5_cut : MOK mX5_cut 2 := ⟨List.mem_filter.mpr ⟨List.mem_of_getElem? (i := 535) (by decide +kernel), by decide +kernel⟩, in_RX5, by decide +kernel⟩
theorem voX5_cut : VOK mX5_cut := ⟨List.mem_filter.mpr ⟨List.mem_of_getElem? (i := 533) (by decide +kernel), by decide +kernel⟩, List.mem_filter.mpr ⟨List.mem_of_getElem? (i := 534) (by decide +kernel), by decide +kernel⟩⟩
def mX5_isCutting : MT := (yX5_isCutting, cX5_isCutting, 2, some .boolean, 1)
theorem okX5_isCutting : MOK mX5_isCutting 2 := ⟨List.mem_filter.mpr ⟨List.mem_of_getElem? (i := 527) (by decide +kernel), by decide +kernel⟩, in_RX5, by decide +kernel⟩
theorem stX5_isCutting : Cond.static mX5_isCutting.1 ∈ tb := List.mem_filter.mpr ⟨List.mem_of_getElem? (i := 526) (by decide +kernel), by decide +kernel⟩
def mX5_winningCut : MT := (yX5_winningCut, cX5_winningCut, 2, some .int, 1)
theorem okX5_winningCut : MOK mX5_winningCut 2 := ⟨List.mem_filter.mpr ⟨List.mem_of_getElem? (i := 530) (by decide +kernel), by decide +kernel⟩, in_RX5, by decide +kernel⟩
theorem stX5_winningCut : Cond.static mX5_winningCut.1 ∈ tb := List.mem_filter.mpr ⟨List.mem_of_getElem? (i := 529) (by decide +kernel), by decide +kernel⟩
def mX5_fits : MT := (yX5_fits, cX5_fits, 6, some .int, 6)
theorem okX5_fits : MOK mX5_fits 2 := ⟨List.mem_filter.mpr ⟨List.mem_of_getElem? (i := 539) (by decide +kernel), by decide +kernel⟩, in_RX5, by decide +kernel⟩
theorem voX5_fits : VOK mX5_fits := ⟨List.mem_filter.mpr ⟨List.mem_of_getElem? (i := 537) (by decide +kernel), by decide +kernel⟩, List.mem_filter.mpr ⟨List.mem_of_getElem? (i := 538) (by decide +kernel), by decide +kernel⟩⟩
def mX5_thinks : MT := (yX5_thinks, cX5_thinks, 5, some .int, 6)
theorem okX5_thinks : MOK mX5_thinks 2 := ⟨List.mem_filter.mpr ⟨List.mem_of_getElem? (i := 559) (by decide +kernel), by decide +kernel⟩, in_RX5, by decide +kernel⟩
theorem voX5_thinks : VOK mX5_thinks := ⟨List.mem_filter.mpr ⟨List.mem_of_getElem? (i := 557) (by decide +kernel), by decide +kernel⟩, List.mem_filter.mpr ⟨List.mem_of_getElem? (i := 558) (by decide +kernel), by decide +kernel⟩⟩
def mX5_refusalOfFit : MT := (yX5_refusalOfFit, cX5_refusalOfFit, 4, some .int, 2)
theorem okX5_refusalOfFit : MOK mX5_refusalOfFit 2 := ⟨List.mem_filter.mpr ⟨List.mem_of_getElem? (i := 543) (by decide +kernel), by decide +kernel⟩, in_RX5, by decide +kernel⟩
theorem voX5_refusalOfFit : VOK mX5_refusalOfFit := ⟨List.mem_filter.mpr ⟨List.mem_of_getElem? (i := 542) (by decide +kernel), by decide +kernel⟩, List.mem_filter.mpr ⟨List.mem_of_getElem? (i := 4) (by decide +kernel), by decide +kernel⟩⟩
def mX5_opinionFits : MT := (yX5_opinionFits, cX5_opinionFits, 6, some .boolean, 5)
theorem okX5_opinionFits : MOK mX5_opinionFits 3 := ⟨List.mem_filter.mpr ⟨List.mem_of_getElem? (i := 555) (by decide +kernel), by decide +kernel⟩, in_RX5, by decide +kernel⟩
theorem voX5_opinionFits : VOK mX5_opinionFits := ⟨List.mem_filter.mpr ⟨List.mem_of_getElem? (i := 554) (by decide +kernel), by decide +kernel⟩, List.mem_filter.mpr ⟨List.mem_of_getElem? (i := 6) (by decide +kernel), by decide +kernel⟩⟩
def mX5_weathers : MT := (yX5_weathers, cX5_weathers, 3, some .int, 5)
theorem okX5_weathers : MOK mX5_weathers 1 := ⟨List.mem_filter.mpr ⟨List.mem_of_getElem? (i := 563) (by decide +kernel), by decide +kernel⟩, in_RX5, by decide +kernel⟩
theorem voX5_weathers : VOK mX5_weathers := ⟨List.mem_filter.mpr ⟨List.mem_of_getElem? (i := 561) (by decide +kernel), by decide +kernel⟩, List.mem_filter.mpr ⟨List.mem_of_getElem? (i := 562) (by decide +kernel), by decide +kernel⟩⟩
def mX5_odds : MT := (yX5_odds, cX5_odds, 8, some .long, 2)
theorem okX5_odds : MOK mX5_odds 2 := ⟨List.mem_filter.mpr ⟨List.mem_of_getElem? (i := 572) (by decide +kernel), by decide +kernel⟩, in_RX5, by decide +kernel⟩
theorem voX5_odds : VOK mX5_odds := ⟨List.mem_filter.mpr ⟨List.mem_of_getElem? (i := 570) (by decide +kernel), by decide +kernel⟩, List.mem_filter.mpr ⟨List.mem_of_getElem? (i := 571) (by decide +kernel), by decide +kernel⟩⟩
def mX5_seed : MT := (yX5_seed, cX5_seed, 3, some .int, 0)
theorem okX5_seed : MOK mX5_seed 1 := ⟨List.mem_filter.mpr ⟨List.mem_of_getElem? (i := 578) (by decide +kernel), by decide +kernel⟩, in_RX5, by decide +kernel⟩
theorem voX5_seed : VOK mX5_seed := ⟨List.mem_filter.mpr ⟨List.mem_of_getElem? (i := 576) (by decide +kernel), by decide +kernel⟩, List.mem_filter.mpr ⟨List.mem_of_getElem? (i := 577) (by decide +kernel), by decide +kernel⟩⟩
def mX5_feed : MT := (yX5_feed, cX5_feed, 4, some .int, 2)
theorem okX5_feed : MOK mX5_feed 2 := ⟨List.mem_filter.mpr ⟨List.mem_of_getElem? (i := 582) (by decide +kernel), by decide +kernel⟩, in_RX5, by decide +kernel⟩
theorem voX5_feed : VOK mX5_feed := ⟨List.mem_filter.mpr ⟨List.mem_of_getElem? (i := 580) (by decide +kernel), by decide +kernel⟩, List.mem_filter.mpr ⟨List.mem_of_getElem? (i := 581) (by decide +kernel), by decide +kernel⟩⟩
def mX5_wipe : MT := (yX5_wipe, cX5_wipe, 2, some .int, 0)
theorem okX5_wipe : MOK mX5_wipe 0 := ⟨List.mem_filter.mpr ⟨List.mem_of_getElem? (i := 590) (by decide +kernel), by decide +kernel⟩, in_RX5, by decide +kernel⟩
theorem voX5_wipe : VOK mX5_wipe := ⟨List.mem_filter.mpr ⟨List.mem_of_getElem? (i := 588) (by decide +kernel), by decide +kernel⟩, List.mem_filter.mpr ⟨List.mem_of_getElem? (i := 589) (by decide +kernel), by decide +kernel⟩⟩
def mX5_text : MT := (yX5_text, cX5_text, 2, some .int, 10)
theorem okX5_text : MOK mX5_text 0 := ⟨List.mem_filter.mpr ⟨List.mem_of_getElem? (i := 594) (by decide +kernel), by decide +kernel⟩, in_RX5, by decide +kernel⟩
theorem voX5_text : VOK mX5_text := ⟨List.mem_filter.mpr ⟨List.mem_of_getElem? (i := 592) (by decide +kernel), by decide +kernel⟩, List.mem_filter.mpr ⟨List.mem_of_getElem? (i := 593) (by decide +kernel), by decide +kernel⟩⟩
def mX5_hold : MT := (yX5_hold, cX5_hold, 3, some .int, 2)
theorem okX5_hold : MOK mX5_hold 2 := ⟨List.mem_filter.mpr ⟨List.mem_of_getElem? (i := 721) (by decide +kernel), by decide +kernel⟩, in_RX5, by decide +kernel⟩
theorem voX5_hold : VOK mX5_hold := ⟨List.mem_filter.mpr ⟨List.mem_of_getElem? (i := 719) (by decide +kernel), by decide +kernel⟩, List.mem_filter.mpr ⟨List.mem_of_getElem? (i := 720) (by decide +kernel), by decide +kernel⟩⟩
def mX5_as : MT := (yX5_as, cX5_as, 4, some .int, 2)
theorem okX5_as : MOK mX5_as 2 := ⟨List.mem_filter.mpr ⟨List.mem_of_getElem? (i := 725) (by decide +kernel), by decide +kernel⟩, in_RX5, by decide +kernel⟩
theorem voX5_as : VOK mX5_as := ⟨List.mem_filter.mpr ⟨List.mem_of_getElem? (i := 723) (by decide +kernel), by decide +kernel⟩, List.mem_filter.mpr ⟨List.mem_of_getElem? (i := 724) (by decide +kernel), by decide +kernel⟩⟩
def mX5_sheet : MT := (yX5_sheet, cX5_sheet, 4, some .int, 2)
theorem okX5_sheet : MOK mX5_sheet 3 := ⟨List.mem_filter.mpr ⟨List.mem_of_getElem? (i := 735) (by decide +kernel), by decide +kernel⟩, in_RX5, by decide +kernel⟩
theorem voX5_sheet : VOK mX5_sheet := ⟨List.mem_filter.mpr ⟨List.mem_of_getElem? (i := 733) (by decide +kernel), by decide +kernel⟩, List.mem_filter.mpr ⟨List.mem_of_getElem? (i := 734) (by decide +kernel), by decide +kernel⟩⟩
def mX5_write : MT := (yX5_write, cX5_write, 5, some .int, 2)
theorem okX5_write : MOK mX5_write 3 := ⟨List.mem_filter.mpr ⟨List.mem_of_getElem? (i := 746) (by decide +kernel), by decide +kernel⟩, in_RX5, by decide +kernel⟩
theorem voX5_write : VOK mX5_write := ⟨List.mem_filter.mpr ⟨List.mem_of_getElem? (i := 744) (by decide +kernel), by decide +kernel⟩, List.mem_filter.mpr ⟨List.mem_of_getElem? (i := 745) (by decide +kernel), by decide +kernel⟩⟩
def mX5_copy : MT := (yX5_copy, cX5_copy, 8, some .int, 2)
theorem okX5_copy : MOK mX5_copy 5 := ⟨List.mem_filter.mpr ⟨List.mem_of_getElem? (i := 754) (by decide +kernel), by decide +kernel⟩, in_RX5, by decide +kernel⟩
theorem voX5_copy : VOK mX5_copy := ⟨List.mem_filter.mpr ⟨List.mem_of_getElem? (i := 752) (by decide +kernel), by decide +kernel⟩, List.mem_filter.mpr ⟨List.mem_of_getElem? (i := 753) (by decide +kernel), by decide +kernel⟩⟩
def mX5_load : MT := (yX5_load, cX5_load, 5, some .int, 2)
theorem okX5_load : MOK mX5_load 1 := ⟨List.mem_filter.mpr ⟨List.mem_of_getElem? (i := 763) (by decide +kernel), by decide +kernel⟩, in_RX5, by decide +kernel⟩
theorem voX5_load : VOK mX5_load := ⟨List.mem_filter.mpr ⟨List.mem_of_getElem? (i := 761) (by decide +kernel), by decide +kernel⟩, List.mem_filter.mpr ⟨List.mem_of_getElem? (i := 762) (by decide +kernel), by decide +kernel⟩⟩
def mX5_judge : MT := (yX5_judge, cX5_judge, 4, some .int, 3)
theorem okX5_judge : MOK mX5_judge 1 := ⟨List.mem_filter.mpr ⟨List.mem_of_getElem? (i := 768) (by decide +kernel), by decide +kernel⟩, in_RX5, by decide +kernel⟩
theorem voX5_judge : VOK mX5_judge := ⟨List.mem_filter.mpr ⟨List.mem_of_getElem? (i := 766) (by decide +kernel), by decide +kernel⟩, List.mem_filter.mpr ⟨List.mem_of_getElem? (i := 767) (by decide +kernel), by decide +kernel⟩⟩
def mX5_image : MT := (yX5_image, cX5_image, 1, some .int, 2)
theorem okX5_image : MOK mX5_image 0 := ⟨List.mem_filter.mpr ⟨List.mem_of_getElem? (i := 772) (by decide +kernel), by decide +kernel⟩, in_RX5, by decide +kernel⟩
theorem voX5_image : VOK mX5_image := ⟨List.mem_filter.mpr ⟨List.mem_of_getElem? (i := 770) (by decide +kernel), by decide +kernel⟩, List.mem_filter.mpr ⟨List.mem_of_getElem? (i := 771) (by decide +kernel), by decide +kernel⟩⟩
def mX5_undo : MT := (yX5_undo, cX5_undo, 1, some .int, 2)
theorem okX5_undo : MOK mX5_undo 0 := ⟨List.mem_filter.mpr ⟨List.mem_of_getElem? (i := 776) (by decide +kernel), by decide +kernel⟩, in_RX5, by decide +kernel⟩
theorem voX5_undo : VOK mX5_undo := ⟨List.mem_filter.mpr ⟨List.mem_of_getElem? (i := 774) (by decide +kernel), by decide +kernel⟩, List.mem_filter.mpr ⟨List.mem_of_getElem? (i := 775) (by decide +kernel), by decide +kernel⟩⟩
def mX5_tear : MT := (yX5_tear, cX5_tear, 2, some .int, 0)
theorem okX5_tear : MOK mX5_tear 0 := ⟨List.mem_filter.mpr ⟨List.mem_of_getElem? (i := 780) (by decide +kernel), by decide +kernel⟩, in_RX5, by decide +kernel⟩
theorem voX5_tear : VOK mX5_tear := ⟨List.mem_filter.mpr ⟨List.mem_of_getElem? (i := 778) (by decide +kernel), by decide +kernel⟩, List.mem_filter.mpr ⟨List.mem_of_getElem? (i := 779) (by decide +kernel), by decide +kernel⟩⟩
def mX5_count : MT := (yX5_count, cX5_count, 2, some .int, 5)
theorem okX5_count : MOK mX5_count 1 := ⟨List.mem_filter.mpr ⟨List.mem_of_getElem? (i := 784) (by decide +kernel), by decide +kernel⟩, in_RX5, by decide +kernel⟩
theorem voX5_count : VOK mX5_count := ⟨List.mem_filter.mpr ⟨List.mem_of_getElem? (i := 782) (by decide +kernel), by decide +kernel⟩, List.mem_filter.mpr ⟨List.mem_of_getElem? (i := 783) (by decide +kernel), by decide +kernel⟩⟩
def mX5_status : MT := (yX5_status, cX5_status, 4, some .int, 2)
theorem okX5_status : MOK mX5_status 1 := ⟨List.mem_filter.mpr ⟨List.mem_of_getElem? (i := 792) (by decide +kernel), by decide +kernel⟩, in_RX5, by decide +kernel⟩
theorem voX5_status : VOK mX5_status := ⟨List.mem_filter.mpr ⟨List.mem_of_getElem? (i := 790) (by decide +kernel), by decide +kernel⟩, List.mem_filter.mpr ⟨List.mem_of_getElem? (i := 791) (by decide +kernel), by decide +kernel⟩⟩
def mX5_finding : MT := (yX5_finding, cX5_finding, 2, some .int, 1)
theorem okX5_finding : MOK mX5_finding 1 := ⟨List.mem_filter.mpr ⟨List.mem_of_getElem? (i := 245) (by decide +kernel), by decide +kernel⟩, in_RX5, by decide +kernel⟩
theorem voX5_finding : VOK mX5_finding := ⟨List.mem_filter.mpr ⟨List.mem_of_getElem? (i := 244) (by decide +kernel), by decide +kernel⟩, List.mem_filter.mpr ⟨List.mem_of_getElem? (i := 0) (by decide +kernel), by decide +kernel⟩⟩
def mX5_refusalOfSheet : MT := (yX5_refusalOfSheet, cX5_refusalOfSheet, 2, some .int, 1)
theorem okX5_refusalOfSheet : MOK mX5_refusalOfSheet 1 := ⟨List.mem_filter.mpr ⟨List.mem_of_getElem? (i := 547) (by decide +kernel), by decide +kernel⟩, in_RX5, by decide +kernel⟩
theorem voX5_refusalOfSheet : VOK mX5_refusalOfSheet := ⟨List.mem_filter.mpr ⟨List.mem_of_getElem? (i := 546) (by decide +kernel), by decide +kernel⟩, List.mem_filter.mpr ⟨List.mem_of_getElem? (i := 5) (by decide +kernel), by decide +kernel⟩⟩
def mX5_trialBehind : MT := (yX5_trialBehind, cX5_trialBehind, 3, some (.object "SheafVotes$Parish"), 5)
theorem okX5_trialBehind : MOK mX5_trialBehind 1 := ⟨List.mem_filter.mpr ⟨List.mem_of_getElem? (i := 434) (by decide +kernel), by decide +kernel⟩, in_RX5, by decide +kernel⟩
theorem voX5_trialBehind : VOK mX5_trialBehind := ⟨List.mem_filter.mpr ⟨List.mem_of_getElem? (i := 433) (by decide +kernel), by decide +kernel⟩, List.mem_filter.mpr ⟨List.mem_of_getElem? (i := 1) (by decide +kernel), by decide +kernel⟩⟩
def mX5_isQuestion : MT := (yX5_isQuestion, cX5_isQuestion, 1, some .boolean, 1)
theorem okX5_isQuestion : MOK mX5_isQuestion 1 := ⟨List.mem_filter.mpr ⟨List.mem_of_getElem? (i := 381) (by decide +kernel), by decide +kernel⟩, in_RX5, by decide +kernel⟩
theorem stX5_isQuestion : Cond.static mX5_isQuestion.1 ∈ tb := List.mem_filter.mpr ⟨List.mem_of_getElem? (i := 380) (by decide +kernel), by decide +kernel⟩
def mX5_isAhead : MT := (yX5_isAhead, cX5_isAhead, 1, some .boolean, 1)
theorem okX5_isAhead : MOK mX5_isAhead 1 := ⟨List.mem_filter.mpr ⟨List.mem_of_getElem? (i := 430) (by decide +kernel), by decide +kernel⟩, in_RX5, by decide +kernel⟩
theorem stX5_isAhead : Cond.static mX5_isAhead.1 ∈ tb := List.mem_filter.mpr ⟨List.mem_of_getElem? (i := 429) (by decide +kernel), by decide +kernel⟩
def mX5_isIn : MT := (yX5_isIn, cX5_isIn, 2, some .boolean, 0)
theorem okX5_isIn : MOK mX5_isIn 2 := ⟨List.mem_filter.mpr ⟨List.mem_of_getElem? (i := 370) (by decide +kernel), by decide +kernel⟩, in_RX5, by decide +kernel⟩
theorem stX5_isIn : Cond.static mX5_isIn.1 ∈ tb := List.mem_filter.mpr ⟨List.mem_of_getElem? (i := 369) (by decide +kernel), by decide +kernel⟩
def mX5_within : MT := (yX5_within, cX5_within, 3, some .boolean, 0)
theorem okX5_within : MOK mX5_within 3 := ⟨List.mem_filter.mpr ⟨List.mem_of_getElem? (i := 241) (by decide +kernel), by decide +kernel⟩, in_RX5, by decide +kernel⟩
theorem stX5_within : Cond.static mX5_within.1 ∈ tb := List.mem_filter.mpr ⟨List.mem_of_getElem? (i := 240) (by decide +kernel), by decide +kernel⟩
def mX6_isIn : MT := (yX6_isIn, cX6_isIn, 6, some .boolean, 0)
theorem okX6_isIn : MOK mX6_isIn 3 := ⟨List.mem_filter.mpr ⟨List.mem_of_getElem? (i := 867) (by decide +kernel), by decide +kernel⟩, in_RX6, by decide +kernel⟩
theorem stX6_isIn : Cond.static mX6_isIn.1 ∈ tb := List.mem_filter.mpr ⟨List.mem_of_getElem? (i := 866) (by decide +kernel), by decide +kernel⟩
def mX6_finds : MT := (yX6_finds, cX6_finds, 2, some .int, 0)
theorem okX6_finds : MOK mX6_finds 1 := ⟨List.mem_filter.mpr ⟨List.mem_of_getElem? (i := 877) (by decide +kernel), by decide +kernel⟩, in_RX6, by decide +kernel⟩
theorem voX6_finds : VOK mX6_finds := ⟨List.mem_filter.mpr ⟨List.mem_of_getElem? (i := 876) (by decide +kernel), by decide +kernel⟩, List.mem_filter.mpr ⟨List.mem_of_getElem? (i := 13) (by decide +kernel), by decide +kernel⟩⟩
def mX6_becomes : MT := (yX6_becomes, cX6_becomes, 4, some .int, 0)
theorem okX6_becomes : MOK mX6_becomes 2 := ⟨List.mem_filter.mpr ⟨List.mem_of_getElem? (i := 872) (by decide +kernel), by decide +kernel⟩, in_RX6, by decide +kernel⟩
theorem voX6_becomes : VOK mX6_becomes := ⟨List.mem_filter.mpr ⟨List.mem_of_getElem? (i := 871) (by decide +kernel), by decide +kernel⟩, List.mem_filter.mpr ⟨List.mem_of_getElem? (i := 12) (by decide +kernel), by decide +kernel⟩⟩
def mX6_copyRow : MT := (yX6_copyRow, cX6_copyRow, 3, none, 0)
theorem okX6_copyRow : MOK mX6_copyRow 2 := ⟨List.mem_filter.mpr ⟨List.mem_of_getElem? (i := 1034) (by decide +kernel), by decide +kernel⟩, in_RX6, by decide +kernel⟩
theorem stX6_copyRow : Cond.static mX6_copyRow.1 ∈ tb := List.mem_filter.mpr ⟨List.mem_of_getElem? (i := 1033) (by decide +kernel), by decide +kernel⟩
def mX6_isFarm : MT := (yX6_isFarm, cX6_isFarm, 2, some .boolean, 0)
theorem okX6_isFarm : MOK mX6_isFarm 1 := ⟨List.mem_filter.mpr ⟨List.mem_of_getElem? (i := 896) (by decide +kernel), by decide +kernel⟩, in_RX6, by decide +kernel⟩
theorem voX6_isFarm : VOK mX6_isFarm := ⟨List.mem_filter.mpr ⟨List.mem_of_getElem? (i := 895) (by decide +kernel), by decide +kernel⟩, List.mem_filter.mpr ⟨List.mem_of_getElem? (i := 15) (by decide +kernel), by decide +kernel⟩⟩
def mX6_its : MT := (yX6_its, cX6_its, 3, some .int, 0)
theorem okX6_its : MOK mX6_its 2 := ⟨List.mem_filter.mpr ⟨List.mem_of_getElem? (i := 901) (by decide +kernel), by decide +kernel⟩, in_RX6, by decide +kernel⟩
theorem voX6_its : VOK mX6_its := ⟨List.mem_filter.mpr ⟨List.mem_of_getElem? (i := 900) (by decide +kernel), by decide +kernel⟩, List.mem_filter.mpr ⟨List.mem_of_getElem? (i := 16) (by decide +kernel), by decide +kernel⟩⟩
def mX6_least : MT := (yX6_least, cX6_least, 2, some .int, 0)
theorem okX6_least : MOK mX6_least 2 := ⟨List.mem_filter.mpr ⟨List.mem_of_getElem? (i := 919) (by decide +kernel), by decide +kernel⟩, in_RX6, by decide +kernel⟩
theorem stX6_least : Cond.static mX6_least.1 ∈ tb := List.mem_filter.mpr ⟨List.mem_of_getElem? (i := 918) (by decide +kernel), by decide +kernel⟩
def mX6_greatest : MT := (yX6_greatest, cX6_greatest, 2, some .int, 0)
theorem okX6_greatest : MOK mX6_greatest 2 := ⟨List.mem_filter.mpr ⟨List.mem_of_getElem? (i := 908) (by decide +kernel), by decide +kernel⟩, in_RX6, by decide +kernel⟩
theorem stX6_greatest : Cond.static mX6_greatest.1 ∈ tb := List.mem_filter.mpr ⟨List.mem_of_getElem? (i := 907) (by decide +kernel), by decide +kernel⟩
def mX6_orNone : MT := (yX6_orNone, cX6_orNone, 2, some .int, 1)
theorem okX6_orNone : MOK mX6_orNone 1 := ⟨List.mem_filter.mpr ⟨List.mem_of_getElem? (i := 1075) (by decide +kernel), by decide +kernel⟩, in_RX6, by decide +kernel⟩
theorem voX6_orNone : VOK mX6_orNone := ⟨List.mem_filter.mpr ⟨List.mem_of_getElem? (i := 1074) (by decide +kernel), by decide +kernel⟩, List.mem_filter.mpr ⟨List.mem_of_getElem? (i := 34) (by decide +kernel), by decide +kernel⟩⟩
def mX6_many : MT := (yX6_many, cX6_many, 3, some .int, 0)
theorem okX6_many : MOK mX6_many 1 := ⟨List.mem_filter.mpr ⟨List.mem_of_getElem? (i := 1055) (by decide +kernel), by decide +kernel⟩, in_RX6, by decide +kernel⟩
theorem stX6_many : Cond.static mX6_many.1 ∈ tb := List.mem_filter.mpr ⟨List.mem_of_getElem? (i := 1054) (by decide +kernel), by decide +kernel⟩
def mX6_weather : MT := (yX6_weather, cX6_weather, 3, some .int, 1)
theorem okX6_weather : MOK mX6_weather 2 := ⟨List.mem_filter.mpr ⟨List.mem_of_getElem? (i := 863) (by decide +kernel), by decide +kernel⟩, in_RX6, by decide +kernel⟩
theorem voX6_weather : VOK mX6_weather := ⟨List.mem_filter.mpr ⟨List.mem_of_getElem? (i := 861) (by decide +kernel), by decide +kernel⟩, List.mem_filter.mpr ⟨List.mem_of_getElem? (i := 862) (by decide +kernel), by decide +kernel⟩⟩
def mX6_comes : MT := (yX6_comes, cX6_comes, 4, none, 0)
theorem okX6_comes : MOK mX6_comes 2 := ⟨List.mem_filter.mpr ⟨List.mem_of_getElem? (i := 888) (by decide +kernel), by decide +kernel⟩, in_RX6, by decide +kernel⟩
theorem voX6_comes : VOK mX6_comes := ⟨List.mem_filter.mpr ⟨List.mem_of_getElem? (i := 887) (by decide +kernel), by decide +kernel⟩, List.mem_filter.mpr ⟨List.mem_of_getElem? (i := 14) (by decide +kernel), by decide +kernel⟩⟩
def mX6_farm : MT := (yX6_farm, cX6_farm, 3, some .int, 1)
theorem okX6_farm : MOK mX6_farm 2 := ⟨List.mem_filter.mpr ⟨List.mem_of_getElem? (i := 881) (by decide +kernel), by decide +kernel⟩, in_RX6, by decide +kernel⟩
theorem voX6_farm : VOK mX6_farm := ⟨List.mem_filter.mpr ⟨List.mem_of_getElem? (i := 879) (by decide +kernel), by decide +kernel⟩, List.mem_filter.mpr ⟨List.mem_of_getElem? (i := 880) (by decide +kernel), by decide +kernel⟩⟩
def mX6_reaps : MT := (yX6_reaps, cX6_reaps, 6, some .int, 1)
theorem okX6_reaps : MOK mX6_reaps 2 := ⟨List.mem_filter.mpr ⟨List.mem_of_getElem? (i := 905) (by decide +kernel), by decide +kernel⟩, in_RX6, by decide +kernel⟩
theorem voX6_reaps : VOK mX6_reaps := ⟨List.mem_filter.mpr ⟨List.mem_of_getElem? (i := 904) (by decide +kernel), by decide +kernel⟩, List.mem_filter.mpr ⟨List.mem_of_getElem? (i := 17) (by decide +kernel), by decide +kernel⟩⟩
def mX6_leftBehind : MT := (yX6_leftBehind, cX6_leftBehind, 5, some .int, 2)
theorem okX6_leftBehind : MOK mX6_leftBehind 2 := ⟨List.mem_filter.mpr ⟨List.mem_of_getElem? (i := 938) (by decide +kernel), by decide +kernel⟩, in_RX6, by decide +kernel⟩
theorem voX6_leftBehind : VOK mX6_leftBehind := ⟨List.mem_filter.mpr ⟨List.mem_of_getElem? (i := 937) (by decide +kernel), by decide +kernel⟩, List.mem_filter.mpr ⟨List.mem_of_getElem? (i := 20) (by decide +kernel), by decide +kernel⟩⟩
def mX6_days : MT := (yX6_days, cX6_days, 5, some .int, 2)
theorem okX6_days : MOK mX6_days 1 := ⟨List.mem_filter.mpr ⟨List.mem_of_getElem? (i := 912) (by decide +kernel), by decide +kernel⟩, in_RX6, by decide +kernel⟩
theorem voX6_days : VOK mX6_days := ⟨List.mem_filter.mpr ⟨List.mem_of_getElem? (i := 911) (by decide +kernel), by decide +kernel⟩, List.mem_filter.mpr ⟨List.mem_of_getElem? (i := 18) (by decide +kernel), by decide +kernel⟩⟩
def mX6_tells : MT := (yX6_tells, cX6_tells, 2, some .int, 1)
theorem okX6_tells : MOK mX6_tells 1 := ⟨List.mem_filter.mpr ⟨List.mem_of_getElem? (i := 916) (by decide +kernel), by decide +kernel⟩, in_RX6, by decide +kernel⟩
theorem voX6_tells : VOK mX6_tells := ⟨List.mem_filter.mpr ⟨List.mem_of_getElem? (i := 915) (by decide +kernel), by decide +kernel⟩, List.mem_filter.mpr ⟨List.mem_of_getElem? (i := 19) (by decide +kernel), by decide +kernel⟩⟩
def mX6_of : MT := (yX6_of, cX6_of, 3, some .int, 3)
theorem okX6_of : MOK mX6_of 2 := ⟨List.mem_filter.mpr ⟨List.mem_of_getElem? (i := 892) (by decide +kernel), by decide +kernel⟩, in_RX6, by decide +kernel⟩
theorem voX6_of : VOK mX6_of := ⟨List.mem_filter.mpr ⟨List.mem_of_getElem? (i := 890) (by decide +kernel), by decide +kernel⟩, List.mem_filter.mpr ⟨List.mem_of_getElem? (i := 891) (by decide +kernel), by decide +kernel⟩⟩
def mX6_isFit : MT := (yX6_isFit, cX6_isFit, 2, some .boolean, 1)
theorem okX6_isFit : MOK mX6_isFit 2 := ⟨List.mem_filter.mpr ⟨List.mem_of_getElem? (i := 926) (by decide +kernel), by decide +kernel⟩, in_RX6, by decide +kernel⟩
theorem stX6_isFit : Cond.static mX6_isFit.1 ∈ tb := List.mem_filter.mpr ⟨List.mem_of_getElem? (i := 925) (by decide +kernel), by decide +kernel⟩
def mX6_change : MT := (yX6_change, cX6_change, 4, some .int, 2)
theorem okX6_change : MOK mX6_change 3 := ⟨List.mem_filter.mpr ⟨List.mem_of_getElem? (i := 923) (by decide +kernel), by decide +kernel⟩, in_RX6, by decide +kernel⟩
theorem voX6_change : VOK mX6_change := ⟨List.mem_filter.mpr ⟨List.mem_of_getElem? (i := 921) (by decide +kernel), by decide +kernel⟩, List.mem_filter.mpr ⟨List.mem_of_getElem? (i := 922) (by decide +kernel), by decide +kernel⟩⟩
def mX6_left : MT := (yX6_left, cX6_left, 3, some .int, 3)
theorem okX6_left : MOK mX6_left 2 := ⟨List.mem_filter.mpr ⟨List.mem_of_getElem? (i := 934) (by decide +kernel), by decide +kernel⟩, in_RX6, by decide +kernel⟩
theorem voX6_left : VOK mX6_left := ⟨List.mem_filter.mpr ⟨List.mem_of_getElem? (i := 932) (by decide +kernel), by decide +kernel⟩, List.mem_filter.mpr ⟨List.mem_of_getElem? (i := 933) (by decide +kernel), by decide +kernel⟩⟩
def mX6_countsDays : MT := (yX6_countsDays, cX6_countsDays, 2, none, 3)
theorem okX6_countsDays : MOK mX6_countsDays 0 := ⟨List.mem_filter.mpr ⟨List.mem_of_getElem? (i := 950) (by decide +kernel), by decide +kernel⟩, in_RX6, by decide +kernel⟩
theorem voX6_countsDays : VOK mX6_countsDays := ⟨List.mem_filter.mpr ⟨List.mem_of_getElem? (i := 949) (by decide +kernel), by decide +kernel⟩, List.mem_filter.mpr ⟨List.mem_of_getElem? (i := 22) (by decide +kernel), by decide +kernel⟩⟩
def mX6_mostDays : MT := (yX6_mostDays, cX6_mostDays, 3, some .int, 1)
theorem okX6_mostDays : MOK mX6_mostDays 0 := ⟨List.mem_filter.mpr ⟨List.mem_of_getElem? (i := 954) (by decide +kernel), by decide +kernel⟩, in_RX6, by decide +kernel⟩
theorem voX6_mostDays : VOK mX6_mostDays := ⟨List.mem_filter.mpr ⟨List.mem_of_getElem? (i := 953) (by decide +kernel), by decide +kernel⟩, List.mem_filter.mpr ⟨List.mem_of_getElem? (i := 23) (by decide +kernel), by decide +kernel⟩⟩
def mX6_withDays : MT := (yX6_withDays, cX6_withDays, 4, some .int, 0)
theorem okX6_withDays : MOK mX6_withDays 1 := ⟨List.mem_filter.mpr ⟨List.mem_of_getElem? (i := 958) (by decide +kernel), by decide +kernel⟩, in_RX6, by decide +kernel⟩
theorem voX6_withDays : VOK mX6_withDays := ⟨List.mem_filter.mpr ⟨List.mem_of_getElem? (i := 957) (by decide +kernel), by decide +kernel⟩, List.mem_filter.mpr ⟨List.mem_of_getElem? (i := 24) (by decide +kernel), by decide +kernel⟩⟩
def mX6_lasts : MT := (yX6_lasts, cX6_lasts, 1, some .int, 4)
theorem okX6_lasts : MOK mX6_lasts 0 := ⟨List.mem_filter.mpr ⟨List.mem_of_getElem? (i := 946) (by decide +kernel), by decide +kernel⟩, in_RX6, by decide +kernel⟩
theorem voX6_lasts : VOK mX6_lasts := ⟨List.mem_filter.mpr ⟨List.mem_of_getElem? (i := 945) (by decide +kernel), by decide +kernel⟩, List.mem_filter.mpr ⟨List.mem_of_getElem? (i := 21) (by decide +kernel), by decide +kernel⟩⟩
def mX6_firsts : MT := (yX6_firsts, cX6_firsts, 3, some .int, 2)
theorem okX6_firsts : MOK mX6_firsts 0 := ⟨List.mem_filter.mpr ⟨List.mem_of_getElem? (i := 966) (by decide +kernel), by decide +kernel⟩, in_RX6, by decide +kernel⟩
theorem voX6_firsts : VOK mX6_firsts := ⟨List.mem_filter.mpr ⟨List.mem_of_getElem? (i := 965) (by decide +kernel), by decide +kernel⟩, List.mem_filter.mpr ⟨List.mem_of_getElem? (i := 25) (by decide +kernel), by decide +kernel⟩⟩
def mX6_last : MT := (yX6_last, cX6_last, 1, some .int, 5)
theorem okX6_last : MOK mX6_last 0 := ⟨List.mem_filter.mpr ⟨List.mem_of_getElem? (i := 942) (by decide +kernel), by decide +kernel⟩, in_RX6, by decide +kernel⟩
theorem voX6_last : VOK mX6_last := ⟨List.mem_filter.mpr ⟨List.mem_of_getElem? (i := 940) (by decide +kernel), by decide +kernel⟩, List.mem_filter.mpr ⟨List.mem_of_getElem? (i := 941) (by decide +kernel), by decide +kernel⟩⟩
def mX6_first : MT := (yX6_first, cX6_first, 1, some .int, 4)
theorem okX6_first : MOK mX6_first 0 := ⟨List.mem_filter.mpr ⟨List.mem_of_getElem? (i := 962) (by decide +kernel), by decide +kernel⟩, in_RX6, by decide +kernel⟩
theorem voX6_first : VOK mX6_first := ⟨List.mem_filter.mpr ⟨List.mem_of_getElem? (i := 960) (by decide +kernel), by decide +kernel⟩, List.mem_filter.mpr ⟨List.mem_of_getElem? (i := 961) (by decide +kernel), by decide +kernel⟩⟩
def mX6_next : MT := (yX6_next, cX6_next, 4, some .int, 5)
theorem okX6_next : MOK mX6_next 0 := ⟨List.mem_filter.mpr ⟨List.mem_of_getElem? (i := 970) (by decide +kernel), by decide +kernel⟩, in_RX6, by decide +kernel⟩
theorem voX6_next : VOK mX6_next := ⟨List.mem_filter.mpr ⟨List.mem_of_getElem? (i := 968) (by decide +kernel), by decide +kernel⟩, List.mem_filter.mpr ⟨List.mem_of_getElem? (i := 969) (by decide +kernel), by decide +kernel⟩⟩
def mX6_nearer : MT := (yX6_nearer, cX6_nearer, 2, some .int, 0)
theorem okX6_nearer : MOK mX6_nearer 2 := ⟨List.mem_filter.mpr ⟨List.mem_of_getElem? (i := 985) (by decide +kernel), by decide +kernel⟩, in_RX6, by decide +kernel⟩
theorem stX6_nearer : Cond.static mX6_nearer.1 ∈ tb := List.mem_filter.mpr ⟨List.mem_of_getElem? (i := 984) (by decide +kernel), by decide +kernel⟩
def mX6_leanBy : MT := (yX6_leanBy, cX6_leanBy, 4, some .int, 2)
theorem okX6_leanBy : MOK mX6_leanBy 1 := ⟨List.mem_filter.mpr ⟨List.mem_of_getElem? (i := 982) (by decide +kernel), by decide +kernel⟩, in_RX6, by decide +kernel⟩
theorem voX6_leanBy : VOK mX6_leanBy := ⟨List.mem_filter.mpr ⟨List.mem_of_getElem? (i := 981) (by decide +kernel), by decide +kernel⟩, List.mem_filter.mpr ⟨List.mem_of_getElem? (i := 27) (by decide +kernel), by decide +kernel⟩⟩
def mX6_leanNow : MT := (yX6_leanNow, cX6_leanNow, 1, some .int, 5)
theorem okX6_leanNow : MOK mX6_leanNow 0 := ⟨List.mem_filter.mpr ⟨List.mem_of_getElem? (i := 978) (by decide +kernel), by decide +kernel⟩, in_RX6, by decide +kernel⟩
theorem voX6_leanNow : VOK mX6_leanNow := ⟨List.mem_filter.mpr ⟨List.mem_of_getElem? (i := 977) (by decide +kernel), by decide +kernel⟩, List.mem_filter.mpr ⟨List.mem_of_getElem? (i := 26) (by decide +kernel), by decide +kernel⟩⟩
def mX6_lean : MT := (yX6_lean, cX6_lean, 1, some .int, 6)
theorem okX6_lean : MOK mX6_lean 0 := ⟨List.mem_filter.mpr ⟨List.mem_of_getElem? (i := 974) (by decide +kernel), by decide +kernel⟩, in_RX6, by decide +kernel⟩
theorem voX6_lean : VOK mX6_lean := ⟨List.mem_filter.mpr ⟨List.mem_of_getElem? (i := 972) (by decide +kernel), by decide +kernel⟩, List.mem_filter.mpr ⟨List.mem_of_getElem? (i := 973) (by decide +kernel), by decide +kernel⟩⟩
def mX6_isAsked : MT := (yX6_isAsked, cX6_isAsked, 1, some .boolean, 1)
theorem okX6_isAsked : MOK mX6_isAsked 1 := ⟨List.mem_filter.mpr ⟨List.mem_of_getElem? (i := 992) (by decide +kernel), by decide +kernel⟩, in_RX6, by decide +kernel⟩
theorem stX6_isAsked : Cond.static mX6_isAsked.1 ∈ tb := List.mem_filter.mpr ⟨List.mem_of_getElem? (i := 991) (by decide +kernel), by decide +kernel⟩
def mX6_answerTo : MT := (yX6_answerTo, cX6_answerTo, 2, some .int, 6)
theorem okX6_answerTo : MOK mX6_answerTo 1 := ⟨List.mem_filter.mpr ⟨List.mem_of_getElem? (i := 997) (by decide +kernel), by decide +kernel⟩, in_RX6, by decide +kernel⟩
theorem voX6_answerTo : VOK mX6_answerTo := ⟨List.mem_filter.mpr ⟨List.mem_of_getElem? (i := 996) (by decide +kernel), by decide +kernel⟩, List.mem_filter.mpr ⟨List.mem_of_getElem? (i := 28) (by decide +kernel), by decide +kernel⟩⟩
def mX6_answer : MT := (yX6_answer, cX6_answer, 2, some .int, 7)
theorem okX6_answer : MOK mX6_answer 1 := ⟨List.mem_filter.mpr ⟨List.mem_of_getElem? (i := 989) (by decide +kernel), by decide +kernel⟩, in_RX6, by decide +kernel⟩
theorem voX6_answer : VOK mX6_answer := ⟨List.mem_filter.mpr ⟨List.mem_of_getElem? (i := 987) (by decide +kernel), by decide +kernel⟩, List.mem_filter.mpr ⟨List.mem_of_getElem? (i := 988) (by decide +kernel), by decide +kernel⟩⟩
def mX6_year : MT := (yX6_year, cX6_year, 7, none, 5)
theorem okX6_year : MOK mX6_year 0 := ⟨List.mem_filter.mpr ⟨List.mem_of_getElem? (i := 1012) (by decide +kernel), by decide +kernel⟩, in_RX6, by decide +kernel⟩
theorem voX6_year : VOK mX6_year := ⟨List.mem_filter.mpr ⟨List.mem_of_getElem? (i := 1011) (by decide +kernel), by decide +kernel⟩, List.mem_filter.mpr ⟨List.mem_of_getElem? (i := 30) (by decide +kernel), by decide +kernel⟩⟩
def mX6_years : MT := (yX6_years, cX6_years, 3, none, 6)
theorem okX6_years : MOK mX6_years 1 := ⟨List.mem_filter.mpr ⟨List.mem_of_getElem? (i := 1008) (by decide +kernel), by decide +kernel⟩, in_RX6, by decide +kernel⟩
theorem voX6_years : VOK mX6_years := ⟨List.mem_filter.mpr ⟨List.mem_of_getElem? (i := 1007) (by decide +kernel), by decide +kernel⟩, List.mem_filter.mpr ⟨List.mem_of_getElem? (i := 29) (by decide +kernel), by decide +kernel⟩⟩
def mX6_go : MT := (yX6_go, cX6_go, 2, some .int, 7)
theorem okX6_go : MOK mX6_go 1 := ⟨List.mem_filter.mpr ⟨List.mem_of_getElem? (i := 1001) (by decide +kernel), by decide +kernel⟩, in_RX6, by decide +kernel⟩
theorem voX6_go : VOK mX6_go := ⟨List.mem_filter.mpr ⟨List.mem_of_getElem? (i := 999) (by decide +kernel), by decide +kernel⟩, List.mem_filter.mpr ⟨List.mem_of_getElem? (i := 1000) (by decide +kernel), by decide +kernel⟩⟩
def mX6_sumOf : MT := (yX6_sumOf, cX6_sumOf, 4, some .int, 1)
theorem okX6_sumOf : MOK mX6_sumOf 1 := ⟨List.mem_filter.mpr ⟨List.mem_of_getElem? (i := 1020) (by decide +kernel), by decide +kernel⟩, in_RX6, by decide +kernel⟩
theorem voX6_sumOf : VOK mX6_sumOf := ⟨List.mem_filter.mpr ⟨List.mem_of_getElem? (i := 1019) (by decide +kernel), by decide +kernel⟩, List.mem_filter.mpr ⟨List.mem_of_getElem? (i := 31) (by decide +kernel), by decide +kernel⟩⟩
def mX6_hadEver : MT := (yX6_hadEver, cX6_hadEver, 3, some .int, 1)
theorem okX6_hadEver : MOK mX6_hadEver 0 := ⟨List.mem_filter.mpr ⟨List.mem_of_getElem? (i := 1024) (by decide +kernel), by decide +kernel⟩, in_RX6, by decide +kernel⟩
theorem voX6_hadEver : VOK mX6_hadEver := ⟨List.mem_filter.mpr ⟨List.mem_of_getElem? (i := 1023) (by decide +kernel), by decide +kernel⟩, List.mem_filter.mpr ⟨List.mem_of_getElem? (i := 32) (by decide +kernel), by decide +kernel⟩⟩
def mX6_now : MT := (yX6_now, cX6_now, 2, some .int, 4)
theorem okX6_now : MOK mX6_now 1 := ⟨List.mem_filter.mpr ⟨List.mem_of_getElem? (i := 1016) (by decide +kernel), by decide +kernel⟩, in_RX6, by decide +kernel⟩
theorem voX6_now : VOK mX6_now := ⟨List.mem_filter.mpr ⟨List.mem_of_getElem? (i := 1014) (by decide +kernel), by decide +kernel⟩, List.mem_filter.mpr ⟨List.mem_of_getElem? (i := 1015) (by decide +kernel), by decide +kernel⟩⟩
def mX6_isLong : MT := (yX6_isLong, cX6_isLong, 1, some .boolean, 1)
theorem okX6_isLong : MOK mX6_isLong 1 := ⟨List.mem_filter.mpr ⟨List.mem_of_getElem? (i := 1031) (by decide +kernel), by decide +kernel⟩, in_RX6, by decide +kernel⟩
theorem stX6_isLong : Cond.static mX6_isLong.1 ∈ tb := List.mem_filter.mpr ⟨List.mem_of_getElem? (i := 1030) (by decide +kernel), by decide +kernel⟩
def mX6_holder : MT := (yX6_holder, cX6_holder, 3, some .int, 7)
theorem okX6_holder : MOK mX6_holder 1 := ⟨List.mem_filter.mpr ⟨List.mem_of_getElem? (i := 1028) (by decide +kernel), by decide +kernel⟩, in_RX6, by decide +kernel⟩
theorem voX6_holder : VOK mX6_holder := ⟨List.mem_filter.mpr ⟨List.mem_of_getElem? (i := 1026) (by decide +kernel), by decide +kernel⟩, List.mem_filter.mpr ⟨List.mem_of_getElem? (i := 1027) (by decide +kernel), by decide +kernel⟩⟩
def mX6_ahead : MT := (yX6_ahead, cX6_ahead, 5, some .int, 7)
theorem okX6_ahead : MOK mX6_ahead 3 := ⟨List.mem_filter.mpr ⟨List.mem_of_getElem? (i := 1038) (by decide +kernel), by decide +kernel⟩, in_RX6, by decide +kernel⟩
theorem voX6_ahead : VOK mX6_ahead := ⟨List.mem_filter.mpr ⟨List.mem_of_getElem? (i := 1036) (by decide +kernel), by decide +kernel⟩, List.mem_filter.mpr ⟨List.mem_of_getElem? (i := 1037) (by decide +kernel), by decide +kernel⟩⟩
def mX6_leans : MT := (yX6_leans, cX6_leans, 3, some .int, 7)
theorem okX6_leans : MOK mX6_leans 1 := ⟨List.mem_filter.mpr ⟨List.mem_of_getElem? (i := 1043) (by decide +kernel), by decide +kernel⟩, in_RX6, by decide +kernel⟩
theorem voX6_leans : VOK mX6_leans := ⟨List.mem_filter.mpr ⟨List.mem_of_getElem? (i := 1041) (by decide +kernel), by decide +kernel⟩, List.mem_filter.mpr ⟨List.mem_of_getElem? (i := 1042) (by decide +kernel), by decide +kernel⟩⟩
def mX6_when : MT := (yX6_when, cX6_when, 3, some .int, 6)
theorem okX6_when : MOK mX6_when 1 := ⟨List.mem_filter.mpr ⟨List.mem_of_getElem? (i := 1047) (by decide +kernel), by decide +kernel⟩, in_RX6, by decide +kernel⟩
theorem voX6_when : VOK mX6_when := ⟨List.mem_filter.mpr ⟨List.mem_of_getElem? (i := 1045) (by decide +kernel), by decide +kernel⟩, List.mem_filter.mpr ⟨List.mem_of_getElem? (i := 1046) (by decide +kernel), by decide +kernel⟩⟩
def mX6_tie : MT := (yX6_tie, cX6_tie, 2, some .int, 6)
theorem okX6_tie : MOK mX6_tie 0 := ⟨List.mem_filter.mpr ⟨List.mem_of_getElem? (i := 1052) (by decide +kernel), by decide +kernel⟩, in_RX6, by decide +kernel⟩
theorem voX6_tie : VOK mX6_tie := ⟨List.mem_filter.mpr ⟨List.mem_of_getElem? (i := 1050) (by decide +kernel), by decide +kernel⟩, List.mem_filter.mpr ⟨List.mem_of_getElem? (i := 1051) (by decide +kernel), by decide +kernel⟩⟩
def mX6_turns : MT := (yX6_turns, cX6_turns, 4, some .int, 7)
theorem okX6_turns : MOK mX6_turns 1 := ⟨List.mem_filter.mpr ⟨List.mem_of_getElem? (i := 1059) (by decide +kernel), by decide +kernel⟩, in_RX6, by decide +kernel⟩
theorem voX6_turns : VOK mX6_turns := ⟨List.mem_filter.mpr ⟨List.mem_of_getElem? (i := 1057) (by decide +kernel), by decide +kernel⟩, List.mem_filter.mpr ⟨List.mem_of_getElem? (i := 1058) (by decide +kernel), by decide +kernel⟩⟩
def mX6_isLast : MT := (yX6_isLast, cX6_isLast, 2, some .boolean, 5)
theorem okX6_isLast : MOK mX6_isLast 1 := ⟨List.mem_filter.mpr ⟨List.mem_of_getElem? (i := 1067) (by decide +kernel), by decide +kernel⟩, in_RX6, by decide +kernel⟩
theorem voX6_isLast : VOK mX6_isLast := ⟨List.mem_filter.mpr ⟨List.mem_of_getElem? (i := 1066) (by decide +kernel), by decide +kernel⟩, List.mem_filter.mpr ⟨List.mem_of_getElem? (i := 33) (by decide +kernel), by decide +kernel⟩⟩
def mX6_mostHands : MT := (yX6_mostHands, cX6_mostHands, 5, some .int, 6)
theorem okX6_mostHands : MOK mX6_mostHands 1 := ⟨List.mem_filter.mpr ⟨List.mem_of_getElem? (i := 1063) (by decide +kernel), by decide +kernel⟩, in_RX6, by decide +kernel⟩
theorem voX6_mostHands : VOK mX6_mostHands := ⟨List.mem_filter.mpr ⟨List.mem_of_getElem? (i := 1061) (by decide +kernel), by decide +kernel⟩, List.mem_filter.mpr ⟨List.mem_of_getElem? (i := 1062) (by decide +kernel), by decide +kernel⟩⟩
def mX6_fewestHands : MT := (yX6_fewestHands, cX6_fewestHands, 6, some .int, 4)
theorem okX6_fewestHands : MOK mX6_fewestHands 1 := ⟨List.mem_filter.mpr ⟨List.mem_of_getElem? (i := 1071) (by decide +kernel), by decide +kernel⟩, in_RX6, by decide +kernel⟩
theorem voX6_fewestHands : VOK mX6_fewestHands := ⟨List.mem_filter.mpr ⟨List.mem_of_getElem? (i := 1069) (by decide +kernel), by decide +kernel⟩, List.mem_filter.mpr ⟨List.mem_of_getElem? (i := 1070) (by decide +kernel), by decide +kernel⟩⟩
def mX6_lend : MT := (yX6_lend, cX6_lend, 6, some .int, 6)
theorem okX6_lend : MOK mX6_lend 1 := ⟨List.mem_filter.mpr ⟨List.mem_of_getElem? (i := 1079) (by decide +kernel), by decide +kernel⟩, in_RX6, by decide +kernel⟩
theorem voX6_lend : VOK mX6_lend := ⟨List.mem_filter.mpr ⟨List.mem_of_getElem? (i := 1077) (by decide +kernel), by decide +kernel⟩, List.mem_filter.mpr ⟨List.mem_of_getElem? (i := 1078) (by decide +kernel), by decide +kernel⟩⟩
def mX6_kinds : MT := (yX6_kinds, cX6_kinds, 6, some .int, 6)
theorem okX6_kinds : MOK mX6_kinds 1 := ⟨List.mem_filter.mpr ⟨List.mem_of_getElem? (i := 1083) (by decide +kernel), by decide +kernel⟩, in_RX6, by decide +kernel⟩
theorem voX6_kinds : VOK mX6_kinds := ⟨List.mem_filter.mpr ⟨List.mem_of_getElem? (i := 1081) (by decide +kernel), by decide +kernel⟩, List.mem_filter.mpr ⟨List.mem_of_getElem? (i := 1082) (by decide +kernel), by decide +kernel⟩⟩
def mX6_wetFor : MT := (yX6_wetFor, cX6_wetFor, 4, some .int, 6)
theorem okX6_wetFor : MOK mX6_wetFor 1 := ⟨List.mem_filter.mpr ⟨List.mem_of_getElem? (i := 1087) (by decide +kernel), by decide +kernel⟩, in_RX6, by decide +kernel⟩
theorem voX6_wetFor : VOK mX6_wetFor := ⟨List.mem_filter.mpr ⟨List.mem_of_getElem? (i := 1085) (by decide +kernel), by decide +kernel⟩, List.mem_filter.mpr ⟨List.mem_of_getElem? (i := 1086) (by decide +kernel), by decide +kernel⟩⟩
def mX6_tell : MT := (yX6_tell, cX6_tell, 7, some .int, 5)
theorem okX6_tell : MOK mX6_tell 2 := ⟨List.mem_filter.mpr ⟨List.mem_of_getElem? (i := 1091) (by decide +kernel), by decide +kernel⟩, in_RX6, by decide +kernel⟩
theorem voX6_tell : VOK mX6_tell := ⟨List.mem_filter.mpr ⟨List.mem_of_getElem? (i := 1089) (by decide +kernel), by decide +kernel⟩, List.mem_filter.mpr ⟨List.mem_of_getElem? (i := 1090) (by decide +kernel), by decide +kernel⟩⟩
def mX6_voice : MT := (yX6_voice, cX6_voice, 8, some .int, 5)
theorem okX6_voice : MOK mX6_voice 0 := ⟨List.mem_filter.mpr ⟨List.mem_of_getElem? (i := 1095) (by decide +kernel), by decide +kernel⟩, in_RX6, by decide +kernel⟩
theorem voX6_voice : VOK mX6_voice := ⟨List.mem_filter.mpr ⟨List.mem_of_getElem? (i := 1093) (by decide +kernel), by decide +kernel⟩, List.mem_filter.mpr ⟨List.mem_of_getElem? (i := 1094) (by decide +kernel), by decide +kernel⟩⟩
def mX6_miceFor : MT := (yX6_miceFor, cX6_miceFor, 7, some .int, 5)
theorem okX6_miceFor : MOK mX6_miceFor 2 := ⟨List.mem_filter.mpr ⟨List.mem_of_getElem? (i := 1099) (by decide +kernel), by decide +kernel⟩, in_RX6, by decide +kernel⟩
theorem voX6_miceFor : VOK mX6_miceFor := ⟨List.mem_filter.mpr ⟨List.mem_of_getElem? (i := 1097) (by decide +kernel), by decide +kernel⟩, List.mem_filter.mpr ⟨List.mem_of_getElem? (i := 1098) (by decide +kernel), by decide +kernel⟩⟩
def mX6_findsCuts : MT := (yX6_findsCuts, cX6_findsCuts, 5, none, 0)
theorem okX6_findsCuts : MOK mX6_findsCuts 2 := ⟨List.mem_filter.mpr ⟨List.mem_of_getElem? (i := 1111) (by decide +kernel), by decide +kernel⟩, in_RX6, by decide +kernel⟩
theorem voX6_findsCuts : VOK mX6_findsCuts := ⟨List.mem_filter.mpr ⟨List.mem_of_getElem? (i := 1110) (by decide +kernel), by decide +kernel⟩, List.mem_filter.mpr ⟨List.mem_of_getElem? (i := 35) (by decide +kernel), by decide +kernel⟩⟩
def mX6_isCut : MT := (yX6_isCut, cX6_isCut, 2, some .boolean, 1)
theorem okX6_isCut : MOK mX6_isCut 2 := ⟨List.mem_filter.mpr ⟨List.mem_of_getElem? (i := 1106) (by decide +kernel), by decide +kernel⟩, in_RX6, by decide +kernel⟩
theorem stX6_isCut : Cond.static mX6_isCut.1 ∈ tb := List.mem_filter.mpr ⟨List.mem_of_getElem? (i := 1105) (by decide +kernel), by decide +kernel⟩
def mX6_wins : MT := (yX6_wins, cX6_wins, 3, some .int, 2)
theorem okX6_wins : MOK mX6_wins 2 := ⟨List.mem_filter.mpr ⟨List.mem_of_getElem? (i := 1103) (by decide +kernel), by decide +kernel⟩, in_RX6, by decide +kernel⟩
theorem voX6_wins : VOK mX6_wins := ⟨List.mem_filter.mpr ⟨List.mem_of_getElem? (i := 1101) (by decide +kernel), by decide +kernel⟩, List.mem_filter.mpr ⟨List.mem_of_getElem? (i := 1102) (by decide +kernel), by decide +kernel⟩⟩
def mX6_cut : MT := (yX6_cut, cX6_cut, 3, some .int, 2)
theorem okX6_cut : MOK mX6_cut 2 := ⟨List.mem_filter.mpr ⟨List.mem_of_getElem? (i := 1115) (by decide +kernel), by decide +kernel⟩, in_RX6, by decide +kernel⟩
theorem voX6_cut : VOK mX6_cut := ⟨List.mem_filter.mpr ⟨List.mem_of_getElem? (i := 1113) (by decide +kernel), by decide +kernel⟩, List.mem_filter.mpr ⟨List.mem_of_getElem? (i := 1114) (by decide +kernel), by decide +kernel⟩⟩
def mX6_isTold : MT := (yX6_isTold, cX6_isTold, 5, some .boolean, 6)
theorem okX6_isTold : MOK mX6_isTold 1 := ⟨List.mem_filter.mpr ⟨List.mem_of_getElem? (i := 1139) (by decide +kernel), by decide +kernel⟩, in_RX6, by decide +kernel⟩
theorem voX6_isTold : VOK mX6_isTold := ⟨List.mem_filter.mpr ⟨List.mem_of_getElem? (i := 1138) (by decide +kernel), by decide +kernel⟩, List.mem_filter.mpr ⟨List.mem_of_getElem? (i := 39) (by decide +kernel), by decide +kernel⟩⟩
def mX6_findsFits : MT := (yX6_findsFits, cX6_findsFits, 6, none, 7)
theorem okX6_findsFits : MOK mX6_findsFits 2 := ⟨List.mem_filter.mpr ⟨List.mem_of_getElem? (i := 1135) (by decide +kernel), by decide +kernel⟩, in_RX6, by decide +kernel⟩
theorem voX6_findsFits : VOK mX6_findsFits := ⟨List.mem_filter.mpr ⟨List.mem_of_getElem? (i := 1134) (by decide +kernel), by decide +kernel⟩, List.mem_filter.mpr ⟨List.mem_of_getElem? (i := 38) (by decide +kernel), by decide +kernel⟩⟩
def mX6_wantsFor : MT := (yX6_wantsFor, cX6_wantsFor, 3, some .int, 2)
theorem okX6_wantsFor : MOK mX6_wantsFor 2 := ⟨List.mem_filter.mpr ⟨List.mem_of_getElem? (i := 1123) (by decide +kernel), by decide +kernel⟩, in_RX6, by decide +kernel⟩
theorem voX6_wantsFor : VOK mX6_wantsFor := ⟨List.mem_filter.mpr ⟨List.mem_of_getElem? (i := 1122) (by decide +kernel), by decide +kernel⟩, List.mem_filter.mpr ⟨List.mem_of_getElem? (i := 36) (by decide +kernel), by decide +kernel⟩⟩
def mX6_fits : MT := (yX6_fits, cX6_fits, 4, some .int, 8)
theorem okX6_fits : MOK mX6_fits 2 := ⟨List.mem_filter.mpr ⟨List.mem_of_getElem? (i := 1119) (by decide +kernel), by decide +kernel⟩, in_RX6, by decide +kernel⟩
theorem voX6_fits : VOK mX6_fits := ⟨List.mem_filter.mpr ⟨List.mem_of_getElem? (i := 1117) (by decide +kernel), by decide +kernel⟩, List.mem_filter.mpr ⟨List.mem_of_getElem? (i := 1118) (by decide +kernel), by decide +kernel⟩⟩
def mX6_thinks : MT := (yX6_thinks, cX6_thinks, 4, some .int, 8)
theorem okX6_thinks : MOK mX6_thinks 2 := ⟨List.mem_filter.mpr ⟨List.mem_of_getElem? (i := 1143) (by decide +kernel), by decide +kernel⟩, in_RX6, by decide +kernel⟩
theorem voX6_thinks : VOK mX6_thinks := ⟨List.mem_filter.mpr ⟨List.mem_of_getElem? (i := 1141) (by decide +kernel), by decide +kernel⟩, List.mem_filter.mpr ⟨List.mem_of_getElem? (i := 1142) (by decide +kernel), by decide +kernel⟩⟩
def mX6_draw : MT := (yX6_draw, cX6_draw, 1, some .int, 0)
theorem okX6_draw : MOK mX6_draw 0 := ⟨List.mem_filter.mpr ⟨List.mem_of_getElem? (i := 1151) (by decide +kernel), by decide +kernel⟩, in_RX6, by decide +kernel⟩
theorem voX6_draw : VOK mX6_draw := ⟨List.mem_filter.mpr ⟨List.mem_of_getElem? (i := 1150) (by decide +kernel), by decide +kernel⟩, List.mem_filter.mpr ⟨List.mem_of_getElem? (i := 40) (by decide +kernel), by decide +kernel⟩⟩
def mX6_weathers : MT := (yX6_weathers, cX6_weathers, 3, some .int, 6)
theorem okX6_weathers : MOK mX6_weathers 1 := ⟨List.mem_filter.mpr ⟨List.mem_of_getElem? (i := 1147) (by decide +kernel), by decide +kernel⟩, in_RX6, by decide +kernel⟩
theorem voX6_weathers : VOK mX6_weathers := ⟨List.mem_filter.mpr ⟨List.mem_of_getElem? (i := 1145) (by decide +kernel), by decide +kernel⟩, List.mem_filter.mpr ⟨List.mem_of_getElem? (i := 1146) (by decide +kernel), by decide +kernel⟩⟩
def mX6_odds : MT := (yX6_odds, cX6_odds, 6, some .long, 1)
theorem okX6_odds : MOK mX6_odds 2 := ⟨List.mem_filter.mpr ⟨List.mem_of_getElem? (i := 1156) (by decide +kernel), by decide +kernel⟩, in_RX6, by decide +kernel⟩
theorem voX6_odds : VOK mX6_odds := ⟨List.mem_filter.mpr ⟨List.mem_of_getElem? (i := 1154) (by decide +kernel), by decide +kernel⟩, List.mem_filter.mpr ⟨List.mem_of_getElem? (i := 1155) (by decide +kernel), by decide +kernel⟩⟩
def mX6_seed : MT := (yX6_seed, cX6_seed, 2, some .int, 1)
theorem okX6_seed : MOK mX6_seed 1 := ⟨List.mem_filter.mpr ⟨List.mem_of_getElem? (i := 1163) (by decide +kernel), by decide +kernel⟩, in_RX6, by decide +kernel⟩
theorem voX6_seed : VOK mX6_seed := ⟨List.mem_filter.mpr ⟨List.mem_of_getElem? (i := 1161) (by decide +kernel), by decide +kernel⟩, List.mem_filter.mpr ⟨List.mem_of_getElem? (i := 1162) (by decide +kernel), by decide +kernel⟩⟩
def mX6_feed : MT := (yX6_feed, cX6_feed, 4, some .int, 1)
theorem okX6_feed : MOK mX6_feed 2 := ⟨List.mem_filter.mpr ⟨List.mem_of_getElem? (i := 1167) (by decide +kernel), by decide +kernel⟩, in_RX6, by decide +kernel⟩
theorem voX6_feed : VOK mX6_feed := ⟨List.mem_filter.mpr ⟨List.mem_of_getElem? (i := 1165) (by decide +kernel), by decide +kernel⟩, List.mem_filter.mpr ⟨List.mem_of_getElem? (i := 1166) (by decide +kernel), by decide +kernel⟩⟩
def mX6_wipe : MT := (yX6_wipe, cX6_wipe, 2, some .int, 0)
theorem okX6_wipe : MOK mX6_wipe 0 := ⟨List.mem_filter.mpr ⟨List.mem_of_getElem? (i := 1171) (by decide +kernel), by decide +kernel⟩, in_RX6, by decide +kernel⟩
theorem voX6_wipe : VOK mX6_wipe := ⟨List.mem_filter.mpr ⟨List.mem_of_getElem? (i := 1169) (by decide +kernel), by decide +kernel⟩, List.mem_filter.mpr ⟨List.mem_of_getElem? (i := 1170) (by decide +kernel), by decide +kernel⟩⟩
def mX6_isLetter : MT := (yX6_isLetter, cX6_isLetter, 1, some .boolean, 0)
theorem okX6_isLetter : MOK mX6_isLetter 1 := ⟨List.mem_filter.mpr ⟨List.mem_of_getElem? (i := 1186) (by decide +kernel), by decide +kernel⟩, in_RX6, by decide +kernel⟩
theorem stX6_isLetter : Cond.static mX6_isLetter.1 ∈ tb := List.mem_filter.mpr ⟨List.mem_of_getElem? (i := 1185) (by decide +kernel), by decide +kernel⟩
def mX6_isDigit : MT := (yX6_isDigit, cX6_isDigit, 1, some .boolean, 0)
theorem okX6_isDigit : MOK mX6_isDigit 1 := ⟨List.mem_filter.mpr ⟨List.mem_of_getElem? (i := 1189) (by decide +kernel), by decide +kernel⟩, in_RX6, by decide +kernel⟩
theorem stX6_isDigit : Cond.static mX6_isDigit.1 ∈ tb := List.mem_filter.mpr ⟨List.mem_of_getElem? (i := 1188) (by decide +kernel), by decide +kernel⟩
def mX6_byteAt : MT := (yX6_byteAt, cX6_byteAt, 2, some .int, 0)
theorem okX6_byteAt : MOK mX6_byteAt 1 := ⟨List.mem_filter.mpr ⟨List.mem_of_getElem? (i := 1183) (by decide +kernel), by decide +kernel⟩, in_RX6, by decide +kernel⟩
theorem voX6_byteAt : VOK mX6_byteAt := ⟨List.mem_filter.mpr ⟨List.mem_of_getElem? (i := 1182) (by decide +kernel), by decide +kernel⟩, List.mem_filter.mpr ⟨List.mem_of_getElem? (i := 42) (by decide +kernel), by decide +kernel⟩⟩
def mX6_nextToken : MT := (yX6_nextToken, cX6_nextToken, 2, none, 1)
theorem okX6_nextToken : MOK mX6_nextToken 0 := ⟨List.mem_filter.mpr ⟨List.mem_of_getElem? (i := 1179) (by decide +kernel), by decide +kernel⟩, in_RX6, by decide +kernel⟩
theorem voX6_nextToken : VOK mX6_nextToken := ⟨List.mem_filter.mpr ⟨List.mem_of_getElem? (i := 1178) (by decide +kernel), by decide +kernel⟩, List.mem_filter.mpr ⟨List.mem_of_getElem? (i := 41) (by decide +kernel), by decide +kernel⟩⟩
def mX6_has3 : MT := (yX6_has3, cX6_has3, 5, some .boolean, 1)
theorem okX6_has3 : MOK mX6_has3 4 := ⟨List.mem_filter.mpr ⟨List.mem_of_getElem? (i := 1209) (by decide +kernel), by decide +kernel⟩, in_RX6, by decide +kernel⟩
theorem voX6_has3 : VOK mX6_has3 := ⟨List.mem_filter.mpr ⟨List.mem_of_getElem? (i := 1208) (by decide +kernel), by decide +kernel⟩, List.mem_filter.mpr ⟨List.mem_of_getElem? (i := 47) (by decide +kernel), by decide +kernel⟩⟩
def mX6_isWord : MT := (yX6_isWord, cX6_isWord, 2, some .boolean, 0)
theorem okX6_isWord : MOK mX6_isWord 1 := ⟨List.mem_filter.mpr ⟨List.mem_of_getElem? (i := 1205) (by decide +kernel), by decide +kernel⟩, in_RX6, by decide +kernel⟩
theorem voX6_isWord : VOK mX6_isWord := ⟨List.mem_filter.mpr ⟨List.mem_of_getElem? (i := 1204) (by decide +kernel), by decide +kernel⟩, List.mem_filter.mpr ⟨List.mem_of_getElem? (i := 46) (by decide +kernel), by decide +kernel⟩⟩
def mX6_fails : MT := (yX6_fails, cX6_fails, 1, some .boolean, 0)
theorem okX6_fails : MOK mX6_fails 0 := ⟨List.mem_filter.mpr ⟨List.mem_of_getElem? (i := 1221) (by decide +kernel), by decide +kernel⟩, in_RX6, by decide +kernel⟩
theorem voX6_fails : VOK mX6_fails := ⟨List.mem_filter.mpr ⟨List.mem_of_getElem? (i := 1220) (by decide +kernel), by decide +kernel⟩, List.mem_filter.mpr ⟨List.mem_of_getElem? (i := 50) (by decide +kernel), by decide +kernel⟩⟩
def mX6_isFour : MT := (yX6_isFour, cX6_isFour, 5, some .boolean, 2)
theorem okX6_isFour : MOK mX6_isFour 4 := ⟨List.mem_filter.mpr ⟨List.mem_of_getElem? (i := 1201) (by decide +kernel), by decide +kernel⟩, in_RX6, by decide +kernel⟩
theorem voX6_isFour : VOK mX6_isFour := ⟨List.mem_filter.mpr ⟨List.mem_of_getElem? (i := 1200) (by decide +kernel), by decide +kernel⟩, List.mem_filter.mpr ⟨List.mem_of_getElem? (i := 45) (by decide +kernel), by decide +kernel⟩⟩
def mX6_isFive : MT := (yX6_isFive, cX6_isFive, 6, some .boolean, 2)
theorem okX6_isFive : MOK mX6_isFive 5 := ⟨List.mem_filter.mpr ⟨List.mem_of_getElem? (i := 1213) (by decide +kernel), by decide +kernel⟩, in_RX6, by decide +kernel⟩
theorem voX6_isFive : VOK mX6_isFive := ⟨List.mem_filter.mpr ⟨List.mem_of_getElem? (i := 1212) (by decide +kernel), by decide +kernel⟩, List.mem_filter.mpr ⟨List.mem_of_getElem? (i := 48) (by decide +kernel), by decide +kernel⟩⟩
def mX6_isSix : MT := (yX6_isSix, cX6_isSix, 7, some .boolean, 2)
theorem okX6_isSix : MOK mX6_isSix 6 := ⟨List.mem_filter.mpr ⟨List.mem_of_getElem? (i := 1237) (by decide +kernel), by decide +kernel⟩, in_RX6, by decide +kernel⟩
theorem voX6_isSix : VOK mX6_isSix := ⟨List.mem_filter.mpr ⟨List.mem_of_getElem? (i := 1236) (by decide +kernel), by decide +kernel⟩, List.mem_filter.mpr ⟨List.mem_of_getElem? (i := 54) (by decide +kernel), by decide +kernel⟩⟩
def mX6_isNumber : MT := (yX6_isNumber, cX6_isNumber, 3, some .boolean, 1)
theorem okX6_isNumber : MOK mX6_isNumber 2 := ⟨List.mem_filter.mpr ⟨List.mem_of_getElem? (i := 1225) (by decide +kernel), by decide +kernel⟩, in_RX6, by decide +kernel⟩
theorem voX6_isNumber : VOK mX6_isNumber := ⟨List.mem_filter.mpr ⟨List.mem_of_getElem? (i := 1224) (by decide +kernel), by decide +kernel⟩, List.mem_filter.mpr ⟨List.mem_of_getElem? (i := 51) (by decide +kernel), by decide +kernel⟩⟩
def mX6_kindHere : MT := (yX6_kindHere, cX6_kindHere, 1, some .int, 3)
theorem okX6_kindHere : MOK mX6_kindHere 0 := ⟨List.mem_filter.mpr ⟨List.mem_of_getElem? (i := 1197) (by decide +kernel), by decide +kernel⟩, in_RX6, by decide +kernel⟩
theorem voX6_kindHere : VOK mX6_kindHere := ⟨List.mem_filter.mpr ⟨List.mem_of_getElem? (i := 1196) (by decide +kernel), by decide +kernel⟩, List.mem_filter.mpr ⟨List.mem_of_getElem? (i := 44) (by decide +kernel), by decide +kernel⟩⟩
def mX6_handsHere : MT := (yX6_handsHere, cX6_handsHere, 1, some .boolean, 3)
theorem okX6_handsHere : MOK mX6_handsHere 0 := ⟨List.mem_filter.mpr ⟨List.mem_of_getElem? (i := 1229) (by decide +kernel), by decide +kernel⟩, in_RX6, by decide +kernel⟩
theorem voX6_handsHere : VOK mX6_handsHere := ⟨List.mem_filter.mpr ⟨List.mem_of_getElem? (i := 1228) (by decide +kernel), by decide +kernel⟩, List.mem_filter.mpr ⟨List.mem_of_getElem? (i := 52) (by decide +kernel), by decide +kernel⟩⟩
def mX6_thinksHere : MT := (yX6_thinksHere, cX6_thinksHere, 2, some .boolean, 3)
theorem okX6_thinksHere : MOK mX6_thinksHere 0 := ⟨List.mem_filter.mpr ⟨List.mem_of_getElem? (i := 1233) (by decide +kernel), by decide +kernel⟩, in_RX6, by decide +kernel⟩
theorem voX6_thinksHere : VOK mX6_thinksHere := ⟨List.mem_filter.mpr ⟨List.mem_of_getElem? (i := 1232) (by decide +kernel), by decide +kernel⟩, List.mem_filter.mpr ⟨List.mem_of_getElem? (i := 53) (by decide +kernel), by decide +kernel⟩⟩
def mX6_farmHere : MT := (yX6_farmHere, cX6_farmHere, 2, some .boolean, 4)
theorem okX6_farmHere : MOK mX6_farmHere 1 := ⟨List.mem_filter.mpr ⟨List.mem_of_getElem? (i := 1217) (by decide +kernel), by decide +kernel⟩, in_RX6, by decide +kernel⟩
theorem voX6_farmHere : VOK mX6_farmHere := ⟨List.mem_filter.mpr ⟨List.mem_of_getElem? (i := 1216) (by decide +kernel), by decide +kernel⟩, List.mem_filter.mpr ⟨List.mem_of_getElem? (i := 49) (by decide +kernel), by decide +kernel⟩⟩
def mX6_weatherHere : MT := (yX6_weatherHere, cX6_weatherHere, 2, some .boolean, 2)
theorem okX6_weatherHere : MOK mX6_weatherHere 1 := ⟨List.mem_filter.mpr ⟨List.mem_of_getElem? (i := 1241) (by decide +kernel), by decide +kernel⟩, in_RX6, by decide +kernel⟩
theorem voX6_weatherHere : VOK mX6_weatherHere := ⟨List.mem_filter.mpr ⟨List.mem_of_getElem? (i := 1240) (by decide +kernel), by decide +kernel⟩, List.mem_filter.mpr ⟨List.mem_of_getElem? (i := 55) (by decide +kernel), by decide +kernel⟩⟩
def mX6_itemHere : MT := (yX6_itemHere, cX6_itemHere, 2, some .boolean, 5)
theorem okX6_itemHere : MOK mX6_itemHere 0 := ⟨List.mem_filter.mpr ⟨List.mem_of_getElem? (i := 1193) (by decide +kernel), by decide +kernel⟩, in_RX6, by decide +kernel⟩
theorem voX6_itemHere : VOK mX6_itemHere := ⟨List.mem_filter.mpr ⟨List.mem_of_getElem? (i := 1192) (by decide +kernel), by decide +kernel⟩, List.mem_filter.mpr ⟨List.mem_of_getElem? (i := 43) (by decide +kernel), by decide +kernel⟩⟩
def mX6_text : MT := (yX6_text, cX6_text, 3, some .int, 6)
theorem okX6_text : MOK mX6_text 0 := ⟨List.mem_filter.mpr ⟨List.mem_of_getElem? (i := 1175) (by decide +kernel), by decide +kernel⟩, in_RX6, by decide +kernel⟩
theorem voX6_text : VOK mX6_text := ⟨List.mem_filter.mpr ⟨List.mem_of_getElem? (i := 1173) (by decide +kernel), by decide +kernel⟩, List.mem_filter.mpr ⟨List.mem_of_getElem? (i := 1174) (by decide +kernel), by decide +kernel⟩⟩
def mX6_hold : MT := (yX6_hold, cX6_hold, 3, some .int, 1)
theorem okX6_hold : MOK mX6_hold 2 := ⟨List.mem_filter.mpr ⟨List.mem_of_getElem? (i := 1245) (by decide +kernel), by decide +kernel⟩, in_RX6, by decide +kernel⟩
theorem voX6_hold : VOK mX6_hold := ⟨List.mem_filter.mpr ⟨List.mem_of_getElem? (i := 1243) (by decide +kernel), by decide +kernel⟩, List.mem_filter.mpr ⟨List.mem_of_getElem? (i := 1244) (by decide +kernel), by decide +kernel⟩⟩
def mX6_isUnder : MT := (yX6_isUnder, cX6_isUnder, 2, some .boolean, 0)
theorem okX6_isUnder : MOK mX6_isUnder 2 := ⟨List.mem_filter.mpr ⟨List.mem_of_getElem? (i := 1252) (by decide +kernel), by decide +kernel⟩, in_RX6, by decide +kernel⟩
theorem stX6_isUnder : Cond.static mX6_isUnder.1 ∈ tb := List.mem_filter.mpr ⟨List.mem_of_getElem? (i := 1251) (by decide +kernel), by decide +kernel⟩
def mX6_as : MT := (yX6_as, cX6_as, 4, some .int, 1)
theorem okX6_as : MOK mX6_as 2 := ⟨List.mem_filter.mpr ⟨List.mem_of_getElem? (i := 1249) (by decide +kernel), by decide +kernel⟩, in_RX6, by decide +kernel⟩
theorem voX6_as : VOK mX6_as := ⟨List.mem_filter.mpr ⟨List.mem_of_getElem? (i := 1247) (by decide +kernel), by decide +kernel⟩, List.mem_filter.mpr ⟨List.mem_of_getElem? (i := 1248) (by decide +kernel), by decide +kernel⟩⟩
def mX6_isSheet : MT := (yX6_isSheet, cX6_isSheet, 1, some .boolean, 0)
theorem okX6_isSheet : MOK mX6_isSheet 1 := ⟨List.mem_filter.mpr ⟨List.mem_of_getElem? (i := 1130) (by decide +kernel), by decide +kernel⟩, in_RX6, by decide +kernel⟩
theorem stX6_isSheet : Cond.static mX6_isSheet.1 ∈ tb := List.mem_filter.mpr ⟨List.mem_of_getElem? (i := 1129) (by decide +kernel), by decide +kernel⟩
def mX6_sheet : MT := (yX6_sheet, cX6_sheet, 5, some .int, 1)
theorem okX6_sheet : MOK mX6_sheet 3 := ⟨List.mem_filter.mpr ⟨List.mem_of_getElem? (i := 1257) (by decide +kernel), by decide +kernel⟩, in_RX6, by decide +kernel⟩
theorem voX6_sheet : VOK mX6_sheet := ⟨List.mem_filter.mpr ⟨List.mem_of_getElem? (i := 1255) (by decide +kernel), by decide +kernel⟩, List.mem_filter.mpr ⟨List.mem_of_getElem? (i := 1256) (by decide +kernel), by decide +kernel⟩⟩
def mX6_write : MT := (yX6_write, cX6_write, 4, some .int, 1)
theorem okX6_write : MOK mX6_write 3 := ⟨List.mem_filter.mpr ⟨List.mem_of_getElem? (i := 1262) (by decide +kernel), by decide +kernel⟩, in_RX6, by decide +kernel⟩
theorem voX6_write : VOK mX6_write := ⟨List.mem_filter.mpr ⟨List.mem_of_getElem? (i := 1260) (by decide +kernel), by decide +kernel⟩, List.mem_filter.mpr ⟨List.mem_of_getElem? (i := 1261) (by decide +kernel), by decide +kernel⟩⟩
def mX6_copy : MT := (yX6_copy, cX6_copy, 10, some .int, 1)
theorem okX6_copy : MOK mX6_copy 5 := ⟨List.mem_filter.mpr ⟨List.mem_of_getElem? (i := 1266) (by decide +kernel), by decide +kernel⟩, in_RX6, by decide +kernel⟩
theorem voX6_copy : VOK mX6_copy := ⟨List.mem_filter.mpr ⟨List.mem_of_getElem? (i := 1264) (by decide +kernel), by decide +kernel⟩, List.mem_filter.mpr ⟨List.mem_of_getElem? (i := 1265) (by decide +kernel), by decide +kernel⟩⟩
def mX6_wants : MT := (yX6_wants, cX6_wants, 2, some .int, 1)
theorem okX6_wants : MOK mX6_wants 1 := ⟨List.mem_filter.mpr ⟨List.mem_of_getElem? (i := 1127) (by decide +kernel), by decide +kernel⟩, in_RX6, by decide +kernel⟩
theorem voX6_wants : VOK mX6_wants := ⟨List.mem_filter.mpr ⟨List.mem_of_getElem? (i := 1126) (by decide +kernel), by decide +kernel⟩, List.mem_filter.mpr ⟨List.mem_of_getElem? (i := 37) (by decide +kernel), by decide +kernel⟩⟩
def mX6_load : MT := (yX6_load, cX6_load, 3, some .int, 2)
theorem okX6_load : MOK mX6_load 1 := ⟨List.mem_filter.mpr ⟨List.mem_of_getElem? (i := 1270) (by decide +kernel), by decide +kernel⟩, in_RX6, by decide +kernel⟩
theorem voX6_load : VOK mX6_load := ⟨List.mem_filter.mpr ⟨List.mem_of_getElem? (i := 1268) (by decide +kernel), by decide +kernel⟩, List.mem_filter.mpr ⟨List.mem_of_getElem? (i := 1269) (by decide +kernel), by decide +kernel⟩⟩
def mX6_judge : MT := (yX6_judge, cX6_judge, 3, some .int, 3)
theorem okX6_judge : MOK mX6_judge 1 := ⟨List.mem_filter.mpr ⟨List.mem_of_getElem? (i := 1274) (by decide +kernel), by decide +kernel⟩, in_RX6, by decide +kernel⟩
theorem voX6_judge : VOK mX6_judge := ⟨List.mem_filter.mpr ⟨List.mem_of_getElem? (i := 1272) (by decide +kernel), by decide +kernel⟩, List.mem_filter.mpr ⟨List.mem_of_getElem? (i := 1273) (by decide +kernel), by decide +kernel⟩⟩
def mX6_image : MT := (yX6_image, cX6_image, 1, some .int, 1)
theorem okX6_image : MOK mX6_image 0 := ⟨List.mem_filter.mpr ⟨List.mem_of_getElem? (i := 1278) (by decide +kernel), by decide +kernel⟩, in_RX6, by decide +kernel⟩
theorem voX6_image : VOK mX6_image := ⟨List.mem_filter.mpr ⟨List.mem_of_getElem? (i := 1276) (by decide +kernel), by decide +kernel⟩, List.mem_filter.mpr ⟨List.mem_of_getElem? (i := 1277) (by decide +kernel), by decide +kernel⟩⟩
def mX6_undo : MT := (yX6_undo, cX6_undo, 1, some .int, 1)
theorem okX6_undo : MOK mX6_undo 0 := ⟨List.mem_filter.mpr ⟨List.mem_of_getElem? (i := 1282) (by decide +kernel), by decide +kernel⟩, in_RX6, by decide +kernel⟩
theorem voX6_undo : VOK mX6_undo := ⟨List.mem_filter.mpr ⟨List.mem_of_getElem? (i := 1280) (by decide +kernel), by decide +kernel⟩, List.mem_filter.mpr ⟨List.mem_of_getElem? (i := 1281) (by decide +kernel), by decide +kernel⟩⟩
def mX6_tear : MT := (yX6_tear, cX6_tear, 2, some .int, 0)
theorem okX6_tear : MOK mX6_tear 0 := ⟨List.mem_filter.mpr ⟨List.mem_of_getElem? (i := 1286) (by decide +kernel), by decide +kernel⟩, in_RX6, by decide +kernel⟩
theorem voX6_tear : VOK mX6_tear := ⟨List.mem_filter.mpr ⟨List.mem_of_getElem? (i := 1284) (by decide +kernel), by decide +kernel⟩, List.mem_filter.mpr ⟨List.mem_of_getElem? (i := 1285) (by decide +kernel), by decide +kernel⟩⟩
def mX6_count : MT := (yX6_count, cX6_count, 4, some .int, 5)
theorem okX6_count : MOK mX6_count 1 := ⟨List.mem_filter.mpr ⟨List.mem_of_getElem? (i := 1290) (by decide +kernel), by decide +kernel⟩, in_RX6, by decide +kernel⟩
theorem voX6_count : VOK mX6_count := ⟨List.mem_filter.mpr ⟨List.mem_of_getElem? (i := 1288) (by decide +kernel), by decide +kernel⟩, List.mem_filter.mpr ⟨List.mem_of_getElem? (i := 1289) (by decide +kernel), by decide +kernel⟩⟩
def mX6_status : MT := (yX6_status, cX6_status, 2, some .int, 1)
theorem okX6_status : MOK mX6_status 1 := ⟨List.mem_filter.mpr ⟨List.mem_of_getElem? (i := 1294) (by decide +kernel), by decide +kernel⟩, in_RX6, by decide +kernel⟩
theorem voX6_status : VOK mX6_status := ⟨List.mem_filter.mpr ⟨List.mem_of_getElem? (i := 1292) (by decide +kernel), by decide +kernel⟩, List.mem_filter.mpr ⟨List.mem_of_getElem? (i := 1293) (by decide +kernel), by decide +kernel⟩⟩
def mJ6_bitCount_0f7a4 : MT := (yJ6_bitCount_0f7a4, cJ6_bitCount_0f7a4, 1, some .int, 0)
theorem okJ6_bitCount_0f7a4 : MOK mJ6_bitCount_0f7a4 1 := ⟨List.mem_filter.mpr ⟨List.mem_of_getElem? (i := 468) (by decide +kernel), by decide +kernel⟩, in_RJ6, by decide +kernel⟩
theorem stJ6_bitCount_0f7a4 : Cond.static mJ6_bitCount_0f7a4.1 ∈ tb := List.mem_filter.mpr ⟨List.mem_of_getElem? (i := 467) (by decide +kernel), by decide +kernel⟩
def mJ0_length_8abf5 : MT := (yJ0_length_8abf5, cJ0_length_8abf5, 1, some .int, 1)
theorem okJ0_length_8abf5 : MOK mJ0_length_8abf5 0 := ⟨List.mem_filter.mpr ⟨List.mem_of_getElem? (i := 638) (by decide +kernel), by decide +kernel⟩, in_RJ0, by decide +kernel⟩
theorem voJ0_length_8abf5 : VOK mJ0_length_8abf5 := ⟨List.mem_filter.mpr ⟨List.mem_of_getElem? (i := 636) (by decide +kernel), by decide +kernel⟩, List.mem_filter.mpr ⟨List.mem_of_getElem? (i := 637) (by decide +kernel), by decide +kernel⟩⟩
def mJ0_charAt_5068e : MT := (yJ0_charAt_5068e, cJ0_charAt_5068e, 2, some .char, 4)
theorem okJ0_charAt_5068e : MOK mJ0_charAt_5068e 1 := ⟨List.mem_filter.mpr ⟨List.mem_of_getElem? (i := 648) (by decide +kernel), by decide +kernel⟩, in_RJ0, by decide +kernel⟩
theorem voJ0_charAt_5068e : VOK mJ0_charAt_5068e := ⟨List.mem_filter.mpr ⟨List.mem_of_getElem? (i := 646) (by decide +kernel), by decide +kernel⟩, List.mem_filter.mpr ⟨List.mem_of_getElem? (i := 647) (by decide +kernel), by decide +kernel⟩⟩
def mJ0_coder_7d493 : MT := (yJ0_coder_7d493, cJ0_coder_7d493, 1, some .byte, 0)
theorem okJ0_coder_7d493 : MOK mJ0_coder_7d493 0 := ⟨List.mem_filter.mpr ⟨List.mem_of_getElem? (i := 642) (by decide +kernel), by decide +kernel⟩, in_RJ0, by decide +kernel⟩
theorem voJ0_coder_7d493 : VOK mJ0_coder_7d493 := ⟨List.mem_filter.mpr ⟨List.mem_of_getElem? (i := 640) (by decide +kernel), by decide +kernel⟩, List.mem_filter.mpr ⟨List.mem_of_getElem? (i := 641) (by decide +kernel), by decide +kernel⟩⟩
def mJ0_isLatin1_aae02 : MT := (yJ0_isLatin1_aae02, cJ0_isLatin1_aae02, 1, some .boolean, 0)
theorem okJ0_isLatin1_aae02 : MOK mJ0_isLatin1_aae02 0 := ⟨List.mem_filter.mpr ⟨List.mem_of_getElem? (i := 652) (by decide +kernel), by decide +kernel⟩, in_RJ0, by decide +kernel⟩
theorem voJ0_isLatin1_aae02 : VOK mJ0_isLatin1_aae02 := ⟨List.mem_filter.mpr ⟨List.mem_of_getElem? (i := 650) (by decide +kernel), by decide +kernel⟩, List.mem_filter.mpr ⟨List.mem_of_getElem? (i := 651) (by decide +kernel), by decide +kernel⟩⟩
def mJ0_checkIndex_df160 : MT := (yJ0_checkIndex_df160, cJ0_checkIndex_df160, 2, none, 1)
theorem okJ0_checkIndex_df160 : MOK mJ0_checkIndex_df160 2 := ⟨List.mem_filter.mpr ⟨List.mem_of_getElem? (i := 658) (by decide +kernel), by decide +kernel⟩, in_RJ0, by decide +kernel⟩
theorem stJ0_checkIndex_df160 : Cond.static mJ0_checkIndex_df160.1 ∈ tb := List.mem_filter.mpr ⟨List.mem_of_getElem? (i := 657) (by decide +kernel), by decide +kernel⟩
def mJ1_charAt_3b067 : MT := (yJ1_charAt_3b067, cJ1_charAt_3b067, 2, some .char, 2)
theorem okJ1_charAt_3b067 : MOK mJ1_charAt_3b067 2 := ⟨List.mem_filter.mpr ⟨List.mem_of_getElem? (i := 655) (by decide +kernel), by decide +kernel⟩, in_RJ1, by decide +kernel⟩
theorem stJ1_charAt_3b067 : Cond.static mJ1_charAt_3b067.1 ∈ tb := List.mem_filter.mpr ⟨List.mem_of_getElem? (i := 654) (by decide +kernel), by decide +kernel⟩
def mJ2_getChar_3b067 : MT := (yJ2_getChar_3b067, cJ2_getChar_3b067, 2, some .char, 1)
theorem okJ2_getChar_3b067 : MOK mJ2_getChar_3b067 2 := ⟨List.mem_filter.mpr ⟨List.mem_of_getElem? (i := 676) (by decide +kernel), by decide +kernel⟩, in_RJ2, by decide +kernel⟩
theorem stJ2_getChar_3b067 : Cond.static mJ2_getChar_3b067.1 ∈ tb := List.mem_filter.mpr ⟨List.mem_of_getElem? (i := 675) (by decide +kernel), by decide +kernel⟩
def mJ2_length_9d52b : MT := (yJ2_length_9d52b, cJ2_length_9d52b, 1, some .int, 0)
theorem okJ2_length_9d52b : MOK mJ2_length_9d52b 1 := ⟨List.mem_filter.mpr ⟨List.mem_of_getElem? (i := 672) (by decide +kernel), by decide +kernel⟩, in_RJ2, by decide +kernel⟩
theorem stJ2_length_9d52b : Cond.static mJ2_length_9d52b.1 ∈ tb := List.mem_filter.mpr ⟨List.mem_of_getElem? (i := 671) (by decide +kernel), by decide +kernel⟩
def mJ2_charAt_3b067 : MT := (yJ2_charAt_3b067, cJ2_charAt_3b067, 2, some .char, 3)
theorem okJ2_charAt_3b067 : MOK mJ2_charAt_3b067 2 := ⟨List.mem_filter.mpr ⟨List.mem_of_getElem? (i := 666) (by decide +kernel), by decide +kernel⟩, in_RJ2, by decide +kernel⟩
theorem stJ2_charAt_3b067 : Cond.static mJ2_charAt_3b067.1 ∈ tb := List.mem_filter.mpr ⟨List.mem_of_getElem? (i := 665) (by decide +kernel), by decide +kernel⟩
def mJ2_checkIndex_2214a : MT := (yJ2_checkIndex_2214a, cJ2_checkIndex_2214a, 2, none, 2)
theorem okJ2_checkIndex_2214a : MOK mJ2_checkIndex_2214a 2 := ⟨List.mem_filter.mpr ⟨List.mem_of_getElem? (i := 669) (by decide +kernel), by decide +kernel⟩, in_RJ2, by decide +kernel⟩
theorem stJ2_checkIndex_2214a : Cond.static mJ2_checkIndex_2214a.1 ∈ tb := List.mem_filter.mpr ⟨List.mem_of_getElem? (i := 668) (by decide +kernel), by decide +kernel⟩
def mJ3_checkIndex_8e157 : MT := (yJ3_checkIndex_8e157, cJ3_checkIndex_8e157, 3, some .int, 0)
theorem okJ3_checkIndex_8e157 : MOK mJ3_checkIndex_8e157 3 := ⟨List.mem_filter.mpr ⟨List.mem_of_getElem? (i := 663) (by decide +kernel), by decide +kernel⟩, in_RJ3, by decide +kernel⟩
theorem stJ3_checkIndex_8e157 : Cond.static mJ3_checkIndex_8e157.1 ∈ tb := List.mem_filter.mpr ⟨List.mem_of_getElem? (i := 662) (by decide +kernel), by decide +kernel⟩
