/-! words of the tables -/
theorem zv_27 : Cond.initialized RX4 ∈ wG := zg 27 (by decide +kernel) (by decide +kernel)
theorem zv_28 : Cond.initialized RX2 ∈ wG := zg 28 (by decide +kernel) (by decide +kernel)
theorem zv_36 : Cond.initialized RX5 ∈ wG := zg 36 (by decide +kernel) (by decide +kernel)
theorem zv_46 : Cond.methodLink RX7 1 objectInit ∈ wG := zg 46 (by decide +kernel) (by decide +kernel)
theorem zv_47 : Cond.instanceMethod objectInit ∈ wG := zg 47 (by decide +kernel) (by decide +kernel)
theorem zv_48 : Cond.code objectInit ⟨#[0xb1]⟩ 1 none ∈ wG := zg 48 (by decide +kernel) (by decide +kernel)
theorem zv_49 : Cond.classLink RX7 9 RX2 ∈ wG := zg 49 (by decide +kernel) (by decide +kernel)
theorem zv_51 : Cond.classLink RX7 15 RX3 ∈ wG := zg 51 (by decide +kernel) (by decide +kernel)
theorem zv_53 : Cond.classLink RX7 21 RX0 ∈ wG := zg 53 (by decide +kernel) (by decide +kernel)
theorem zv_55 : Cond.classLink RX7 27 RX6 ∈ wG := zg 55 (by decide +kernel) (by decide +kernel)
theorem zv_57 : Cond.classLink RX7 33 RX1 ∈ wG := zg 57 (by decide +kernel) (by decide +kernel)
theorem zv_59 : Cond.classLink RX7 39 RX4 ∈ wG := zg 59 (by decide +kernel) (by decide +kernel)
theorem zv_60 : Cond.instantiable RX4 5 ∈ wG := zg 60 (by decide +kernel) (by decide +kernel)
theorem zv_62 : Cond.instanceMethod yX4_init ∈ wG := zg 62 (by decide +kernel) (by decide +kernel)
theorem zv_63 : Cond.code yX4_init cX4_init 1 none ∈ wG := zg 63 (by decide +kernel) (by decide +kernel)
theorem zv_64 : Cond.methodLink RX4 3 objectInit ∈ wG := zg 64 (by decide +kernel) (by decide +kernel)
theorem zv_65 : Cond.fieldLink RX4 9 "Pointsbook$Sales" "months" "[I" ∈ wG := zg 65 (by decide +kernel) (by decide +kernel)
theorem zv_66 : Cond.fieldLink RX4 15 "Pointsbook$Sales" "buyers" "[I" ∈ wG := zg 66 (by decide +kernel) (by decide +kernel)
theorem zv_67 : Cond.fieldLink RX4 18 "Pointsbook$Sales" "goodsSold" "[I" ∈ wG := zg 67 (by decide +kernel) (by decide +kernel)
theorem zv_68 : Cond.fieldLink RX4 21 "Pointsbook$Sales" "grams" "[I" ∈ wG := zg 68 (by decide +kernel) (by decide +kernel)
theorem zv_69 : Cond.fieldLink RX4 24 "Pointsbook$Sales" "count" "I" ∈ wG := zg 69 (by decide +kernel) (by decide +kernel)
theorem zv_81 : Cond.arrayClass .int ∈ wG := zg 81 (by decide +kernel) (by decide +kernel)
theorem zv_82 : Cond.instantiable RX2 5 ∈ wG := zg 82 (by decide +kernel) (by decide +kernel)
theorem zv_84 : Cond.instanceMethod yX2_init ∈ wG := zg 84 (by decide +kernel) (by decide +kernel)
theorem zv_85 : Cond.code yX2_init cX2_init 1 none ∈ wG := zg 85 (by decide +kernel) (by decide +kernel)
theorem zv_86 : Cond.methodLink RX2 3 objectInit ∈ wG := zg 86 (by decide +kernel) (by decide +kernel)
theorem zv_87 : Cond.fieldLink RX2 9 "Pointsbook$Good" "state" "I" ∈ wG := zg 87 (by decide +kernel) (by decide +kernel)
theorem zv_89 : Cond.fieldLink RX2 15 "Pointsbook$Good" "amount" "I" ∈ wG := zg 89 (by decide +kernel) (by decide +kernel)
theorem zv_91 : Cond.fieldLink RX2 18 "Pointsbook$Good" "energyNow" "I" ∈ wG := zg 91 (by decide +kernel) (by decide +kernel)
theorem zv_93 : Cond.fieldLink RX2 21 "Pointsbook$Good" "sold" "I" ∈ wG := zg 93 (by decide +kernel) (by decide +kernel)
theorem zv_95 : Cond.fieldLink RX2 24 "Pointsbook$Good" "onBlackMarket" "I" ∈ wG := zg 95 (by decide +kernel) (by decide +kernel)
theorem zv_108 : Cond.fieldLink RX7 11 "Pointsbook" "goods" "[LPointsbook$Good;" ∈ wG := zg 108 (by decide +kernel) (by decide +kernel)
theorem zv_109 : Cond.fieldLink RX7 17 "Pointsbook" "people" "[LPointsbook$Person;" ∈ wG := zg 109 (by decide +kernel) (by decide +kernel)
theorem zv_110 : Cond.fieldLink RX7 23 "Pointsbook" "depots" "[LPointsbook$Depot;" ∈ wG := zg 110 (by decide +kernel) (by decide +kernel)
theorem zv_111 : Cond.fieldLink RX7 29 "Pointsbook" "shops" "[LPointsbook$Shop;" ∈ wG := zg 111 (by decide +kernel) (by decide +kernel)
theorem zv_112 : Cond.fieldLink RX7 35 "Pointsbook" "farms" "[LPointsbook$Farm;" ∈ wG := zg 112 (by decide +kernel) (by decide +kernel)
theorem zv_113 : Cond.fieldLink RX7 42 "Pointsbook" "sales" "LPointsbook$Sales;" ∈ wG := zg 113 (by decide +kernel) (by decide +kernel)
theorem zv_114 : Cond.fieldLink RX7 46 "Pointsbook" "leastPoints" "[I" ∈ wG := zg 114 (by decide +kernel) (by decide +kernel)
theorem zv_115 : Cond.fieldLink RX7 50 "Pointsbook" "peopleCount" "I" ∈ wG := zg 115 (by decide +kernel) (by decide +kernel)
theorem zv_116 : Cond.fieldLink RX7 54 "Pointsbook" "depotCount" "I" ∈ wG := zg 116 (by decide +kernel) (by decide +kernel)
theorem zv_117 : Cond.fieldLink RX7 57 "Pointsbook" "shopCount" "I" ∈ wG := zg 117 (by decide +kernel) (by decide +kernel)
theorem zv_118 : Cond.fieldLink RX7 60 "Pointsbook" "farmCount" "I" ∈ wG := zg 118 (by decide +kernel) (by decide +kernel)
theorem zv_119 : Cond.fieldLink RX7 63 "Pointsbook" "pointsTold" "I" ∈ wG := zg 119 (by decide +kernel) (by decide +kernel)
theorem zv_120 : Cond.fieldLink RX7 66 "Pointsbook" "jumpTold" "I" ∈ wG := zg 120 (by decide +kernel) (by decide +kernel)
theorem zv_121 : Cond.fieldLink RX7 69 "Pointsbook" "monthNow" "I" ∈ wG := zg 121 (by decide +kernel) (by decide +kernel)
theorem zv_122 : Cond.fieldLink RX7 72 "Pointsbook" "visits" "I" ∈ wG := zg 122 (by decide +kernel) (by decide +kernel)
theorem zv_123 : Cond.fieldLink RX7 75 "Pointsbook" "gramsCame" "I" ∈ wG := zg 123 (by decide +kernel) (by decide +kernel)
theorem zv_124 : Cond.fieldLink RX7 78 "Pointsbook" "gramsEaten" "I" ∈ wG := zg 124 (by decide +kernel) (by decide +kernel)
theorem zv_125 : Cond.fieldLink RX7 81 "Pointsbook" "gramsLost" "I" ∈ wG := zg 125 (by decide +kernel) (by decide +kernel)
theorem zv_126 : Cond.fieldLink RX7 84 "Pointsbook" "centsPaid" "I" ∈ wG := zg 126 (by decide +kernel) (by decide +kernel)
theorem zv_316 : Cond.methodLink RX3 3 objectInit ∈ wG := zg 316 (by decide +kernel) (by decide +kernel)
theorem zv_317 : Cond.fieldLink RX3 35 "Pointsbook$Person" "number" "I" ∈ wG := zg 317 (by decide +kernel) (by decide +kernel)
theorem zv_319 : Cond.fieldLink RX3 38 "Pointsbook$Person" "kind" "I" ∈ wG := zg 319 (by decide +kernel) (by decide +kernel)
theorem zv_321 : Cond.fieldLink RX3 41 "Pointsbook$Person" "registered" "LPointsbook$Shop;" ∈ wG := zg 321 (by decide +kernel) (by decide +kernel)
theorem zv_323 : Cond.fieldLink RX3 45 "Pointsbook$Person" "next" "LPointsbook$Shop;" ∈ wG := zg 323 (by decide +kernel) (by decide +kernel)
theorem zv_325 : Cond.fieldLink RX3 9 "Pointsbook$Person" "health" "I" ∈ wG := zg 325 (by decide +kernel) (by decide +kernel)
theorem zv_327 : Cond.fieldLink RX3 15 "Pointsbook$Person" "name" "I" ∈ wG := zg 327 (by decide +kernel) (by decide +kernel)
theorem zv_329 : Cond.fieldLink RX3 18 "Pointsbook$Person" "bookStolen" "Z" ∈ wG := zg 329 (by decide +kernel) (by decide +kernel)
theorem zv_331 : Cond.fieldLink RX3 22 "Pointsbook$Person" "pointsGot" "I" ∈ wG := zg 331 (by decide +kernel) (by decide +kernel)
theorem zv_333 : Cond.fieldLink RX3 25 "Pointsbook$Person" "pointsGone" "I" ∈ wG := zg 333 (by decide +kernel) (by decide +kernel)
theorem zv_335 : Cond.fieldLink RX3 28 "Pointsbook$Person" "energyEaten" "I" ∈ wG := zg 335 (by decide +kernel) (by decide +kernel)
theorem zv_337 : Cond.fieldLink RX3 31 "Pointsbook$Person" "bought" "[I" ∈ wG := zg 337 (by decide +kernel) (by decide +kernel)
theorem zv_416 : Cond.methodLink RX0 3 objectInit ∈ wG := zg 416 (by decide +kernel) (by decide +kernel)
theorem zv_417 : Cond.fieldLink RX0 15 "Pointsbook$Depot" "number" "I" ∈ wG := zg 417 (by decide +kernel) (by decide +kernel)
theorem zv_419 : Cond.fieldLink RX0 19 "Pointsbook$Depot" "above" "LPointsbook$Depot;" ∈ wG := zg 419 (by decide +kernel) (by decide +kernel)
theorem zv_421 : Cond.fieldLink RX0 9 "Pointsbook$Depot" "grams" "[I" ∈ wG := zg 421 (by decide +kernel) (by decide +kernel)
theorem zv_438 : Cond.methodLink RX6 3 objectInit ∈ wG := zg 438 (by decide +kernel) (by decide +kernel)
theorem zv_439 : Cond.classLink RX6 9 RX5 ∈ wG := zg 439 (by decide +kernel) (by decide +kernel)
theorem zv_441 : Cond.instantiable RX5 6 ∈ wG := zg 441 (by decide +kernel) (by decide +kernel)
theorem zv_443 : Cond.instanceMethod yX5_init ∈ wG := zg 443 (by decide +kernel) (by decide +kernel)
theorem zv_444 : Cond.code yX5_init cX5_init 1 none ∈ wG := zg 444 (by decide +kernel) (by decide +kernel)
theorem zv_445 : Cond.methodLink RX5 1 objectInit ∈ wG := zg 445 (by decide +kernel) (by decide +kernel)
theorem zv_446 : Cond.fieldLink RX5 7 "Pointsbook$Shelf" "grams" "I" ∈ wG := zg 446 (by decide +kernel) (by decide +kernel)
theorem zv_448 : Cond.fieldLink RX5 13 "Pointsbook$Shelf" "coupons" "I" ∈ wG := zg 448 (by decide +kernel) (by decide +kernel)
theorem zv_450 : Cond.fieldLink RX5 16 "Pointsbook$Shelf" "owed" "I" ∈ wG := zg 450 (by decide +kernel) (by decide +kernel)
theorem zv_452 : Cond.fieldLink RX5 19 "Pointsbook$Shelf" "supplied" "I" ∈ wG := zg 452 (by decide +kernel) (by decide +kernel)
theorem zv_454 : Cond.fieldLink RX5 22 "Pointsbook$Shelf" "sold" "I" ∈ wG := zg 454 (by decide +kernel) (by decide +kernel)
theorem zv_456 : Cond.fieldLink RX5 25 "Pointsbook$Shelf" "forgedCoupons" "I" ∈ wG := zg 456 (by decide +kernel) (by decide +kernel)
theorem zv_471 : Cond.fieldLink RX6 17 "Pointsbook$Shop" "number" "I" ∈ wG := zg 471 (by decide +kernel) (by decide +kernel)
theorem zv_473 : Cond.fieldLink RX6 21 "Pointsbook$Shop" "source" "LPointsbook$Depot;" ∈ wG := zg 473 (by decide +kernel) (by decide +kernel)
theorem zv_475 : Cond.fieldLink RX6 11 "Pointsbook$Shop" "shelves" "[LPointsbook$Shelf;" ∈ wG := zg 475 (by decide +kernel) (by decide +kernel)
theorem zv_524 : Cond.methodLink RX1 1 objectInit ∈ wG := zg 524 (by decide +kernel) (by decide +kernel)
theorem zv_525 : Cond.fieldLink RX1 16 "Pointsbook$Farm" "target" "LPointsbook$Depot;" ∈ wG := zg 525 (by decide +kernel) (by decide +kernel)
theorem zv_527 : Cond.fieldLink RX1 20 "Pointsbook$Farm" "good" "I" ∈ wG := zg 527 (by decide +kernel) (by decide +kernel)
theorem zv_529 : Cond.fieldLink RX1 23 "Pointsbook$Farm" "quota" "I" ∈ wG := zg 529 (by decide +kernel) (by decide +kernel)
theorem zv_531 : Cond.fieldLink RX1 7 "Pointsbook$Farm" "delivered" "I" ∈ wG := zg 531 (by decide +kernel) (by decide +kernel)
theorem zv_533 : Cond.fieldLink RX1 13 "Pointsbook$Farm" "failures" "I" ∈ wG := zg 533 (by decide +kernel) (by decide +kernel)
set_option maxRecDepth 20000 in
theorem zinX0 : ∀ w ∈ u_ws RX0 TX0 3, w ∈ wG := List.forall_mem_cons.mpr ⟨zg 423 (by decide +kernel) (by decide +kernel), List.forall_mem_cons.mpr ⟨zg 425 (by decide +kernel) (by decide +kernel), List.forall_mem_cons.mpr ⟨zg 427 (by decide +kernel) (by decide +kernel), fun _ h => (nomatch h)⟩⟩⟩
theorem zK0 : zKl 0 RX0 TX0 3 tyX0 := ⟨rfl, zinX0, tyX0_ok, nmX0, rfl, by decide⟩
set_option maxRecDepth 20000 in
theorem zinX1 : ∀ w ∈ u_ws RX1 TX1 5, w ∈ wG := List.forall_mem_cons.mpr ⟨zg 535 (by decide +kernel) (by decide +kernel), List.forall_mem_cons.mpr ⟨zg 537 (by decide +kernel) (by decide +kernel), List.forall_mem_cons.mpr ⟨zg 539 (by decide +kernel) (by decide +kernel), List.forall_mem_cons.mpr ⟨zg 541 (by decide +kernel) (by decide +kernel), List.forall_mem_cons.mpr ⟨zg 543 (by decide +kernel) (by decide +kernel), fun _ h => (nomatch h)⟩⟩⟩⟩⟩
theorem zK1 : zKl 1 RX1 TX1 5 tyX1 := ⟨rfl, zinX1, tyX1_ok, nmX1, rfl, by decide⟩
set_option maxRecDepth 20000 in
theorem zinX2 : ∀ w ∈ u_ws RX2 TX2 5, w ∈ wG := List.forall_mem_cons.mpr ⟨zg 97 (by decide +kernel) (by decide +kernel), List.forall_mem_cons.mpr ⟨zg 99 (by decide +kernel) (by decide +kernel), List.forall_mem_cons.mpr ⟨zg 101 (by decide +kernel) (by decide +kernel), List.forall_mem_cons.mpr ⟨zg 103 (by decide +kernel) (by decide +kernel), List.forall_mem_cons.mpr ⟨zg 105 (by decide +kernel) (by decide +kernel), fun _ h => (nomatch h)⟩⟩⟩⟩⟩
theorem zK2 : zKl 2 RX2 TX2 5 tyX2 := ⟨rfl, zinX2, tyX2_ok, nmX2, rfl, by decide⟩
set_option maxRecDepth 20000 in
theorem zinX3 : ∀ w ∈ u_ws RX3 TX3 11, w ∈ wG := List.forall_mem_cons.mpr ⟨zg 339 (by decide +kernel) (by decide +kernel), List.forall_mem_cons.mpr ⟨zg 341 (by decide +kernel) (by decide +kernel), List.forall_mem_cons.mpr ⟨zg 343 (by decide +kernel) (by decide +kernel), List.forall_mem_cons.mpr ⟨zg 345 (by decide +kernel) (by decide +kernel), List.forall_mem_cons.mpr ⟨zg 347 (by decide +kernel) (by decide +kernel), List.forall_mem_cons.mpr ⟨zg 349 (by decide +kernel) (by decide +kernel), List.forall_mem_cons.mpr ⟨zg 351 (by decide +kernel) (by decide +kernel), List.forall_mem_cons.mpr ⟨zg 353 (by decide +kernel) (by decide +kernel), List.forall_mem_cons.mpr ⟨zg 355 (by decide +kernel) (by decide +kernel), List.forall_mem_cons.mpr ⟨zg 357 (by decide +kernel) (by decide +kernel), List.forall_mem_cons.mpr ⟨zg 359 (by decide +kernel) (by decide +kernel), fun _ h => (nomatch h)⟩⟩⟩⟩⟩⟩⟩⟩⟩⟩⟩
theorem zK3 : zKl 3 RX3 TX3 11 tyX3 := ⟨rfl, zinX3, tyX3_ok, nmX3, rfl, by decide⟩
set_option maxRecDepth 20000 in
theorem zinX4 : ∀ w ∈ u_ws RX4 TX4 5, w ∈ wG := List.forall_mem_cons.mpr ⟨zg 70 (by decide +kernel) (by decide +kernel), List.forall_mem_cons.mpr ⟨zg 72 (by decide +kernel) (by decide +kernel), List.forall_mem_cons.mpr ⟨zg 74 (by decide +kernel) (by decide +kernel), List.forall_mem_cons.mpr ⟨zg 76 (by decide +kernel) (by decide +kernel), List.forall_mem_cons.mpr ⟨zg 78 (by decide +kernel) (by decide +kernel), fun _ h => (nomatch h)⟩⟩⟩⟩⟩
theorem zK4 : zKl 4 RX4 TX4 5 tyX4 := ⟨rfl, zinX4, tyX4_ok, nmX4, rfl, by decide⟩
set_option maxRecDepth 20000 in
theorem zinX5 : ∀ w ∈ u_ws RX5 TX5 6, w ∈ wG := List.forall_mem_cons.mpr ⟨zg 458 (by decide +kernel) (by decide +kernel), List.forall_mem_cons.mpr ⟨zg 460 (by decide +kernel) (by decide +kernel), List.forall_mem_cons.mpr ⟨zg 462 (by decide +kernel) (by decide +kernel), List.forall_mem_cons.mpr ⟨zg 464 (by decide +kernel) (by decide +kernel), List.forall_mem_cons.mpr ⟨zg 466 (by decide +kernel) (by decide +kernel), List.forall_mem_cons.mpr ⟨zg 468 (by decide +kernel) (by decide +kernel), fun _ h => (nomatch h)⟩⟩⟩⟩⟩⟩
theorem zK5 : zKl 5 RX5 TX5 6 tyX5 := ⟨rfl, zinX5, tyX5_ok, nmX5, rfl, by decide⟩
set_option maxRecDepth 20000 in
theorem zinX6 : ∀ w ∈ u_ws RX6 TX6 3, w ∈ wG := List.forall_mem_cons.mpr ⟨zg 477 (by decide +kernel) (by decide +kernel), List.forall_mem_cons.mpr ⟨zg 479 (by decide +kernel) (by decide +kernel), List.forall_mem_cons.mpr ⟨zg 481 (by decide +kernel) (by decide +kernel), fun _ h => (nomatch h)⟩⟩⟩
theorem zK6 : zKl 6 RX6 TX6 3 tyX6 := ⟨rfl, zinX6, tyX6_ok, nmX6, rfl, by decide⟩
set_option maxRecDepth 20000 in
theorem zinX7 : ∀ w ∈ u_ws RX7 TX7 19, w ∈ wG := List.forall_mem_cons.mpr ⟨zg 127 (by decide +kernel) (by decide +kernel), List.forall_mem_cons.mpr ⟨zg 129 (by decide +kernel) (by decide +kernel), List.forall_mem_cons.mpr ⟨zg 131 (by decide +kernel) (by decide +kernel), List.forall_mem_cons.mpr ⟨zg 133 (by decide +kernel) (by decide +kernel), List.forall_mem_cons.mpr ⟨zg 135 (by decide +kernel) (by decide +kernel), List.forall_mem_cons.mpr ⟨zg 137 (by decide +kernel) (by decide +kernel), List.forall_mem_cons.mpr ⟨zg 139 (by decide +kernel) (by decide +kernel), List.forall_mem_cons.mpr ⟨zg 141 (by decide +kernel) (by decide +kernel), List.forall_mem_cons.mpr ⟨zg 143 (by decide +kernel) (by decide +kernel), List.forall_mem_cons.mpr ⟨zg 145 (by decide +kernel) (by decide +kernel), List.forall_mem_cons.mpr ⟨zg 147 (by decide +kernel) (by decide +kernel), List.forall_mem_cons.mpr ⟨zg 149 (by decide +kernel) (by decide +kernel), List.forall_mem_cons.mpr ⟨zg 151 (by decide +kernel) (by decide +kernel), List.forall_mem_cons.mpr ⟨zg 153 (by decide +kernel) (by decide +kernel), List.forall_mem_cons.mpr ⟨zg 155 (by decide +kernel) (by decide +kernel), List.forall_mem_cons.mpr ⟨zg 157 (by decide +kernel) (by decide +kernel), List.forall_mem_cons.mpr ⟨zg 159 (by decide +kernel) (by decide +kernel), List.forall_mem_cons.mpr ⟨zg 161 (by decide +kernel) (by decide +kernel), List.forall_mem_cons.mpr ⟨zg 163 (by decide +kernel) (by decide +kernel), fun _ h => (nomatch h)⟩⟩⟩⟩⟩⟩⟩⟩⟩⟩⟩⟩⟩⟩⟩⟩⟩⟩⟩
theorem zK7 : zKl 7 RX7 TX7 19 tyX7 := ⟨rfl, zinX7, tyX7_ok, nmX7, rfl, by decide⟩
