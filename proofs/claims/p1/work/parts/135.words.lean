theorem m_469 : Cond.codeWith yL_make cL_make 4 (some .int) [(0, 9, 12, 13), (0, 9, 15, 15)] ∈ xb := xb_mk (lw_in1 _ (List.mem_of_getElem? (i := 199) (by decide +kernel))) (by decide +kernel)
theorem m_470 : Cond.codeWith yL_array cL_array 4 (some .int) [(0, 9, 12, 13), (0, 9, 15, 15)] ∈ xb := xb_mk (lw_in2 _ (List.mem_of_getElem? (i := 92) (by decide +kernel))) (by decide +kernel)
theorem m_471 : Cond.codeWith yL_function cL_function 6 (some .int) [(0, 12, 15, 13), (0, 12, 19, 15)] ∈ xb := xb_mk (lw_in2 _ (List.mem_of_getElem? (i := 141) (by decide +kernel))) (by decide +kernel)
theorem m_472 : Cond.codeWith yL_proxy cL_proxy 5 (some .int) [(0, 10, 13, 13), (0, 10, 17, 15)] ∈ xb := xb_mk (lw_in2 _ (List.mem_of_getElem? (i := 167) (by decide +kernel))) (by decide +kernel)
theorem m_473 : Cond.codeWith yL_revoke cL_revoke 4 (some .int) [(0, 16, 19, 13)] ∈ xb := xb_mk (lw_in2 _ (List.mem_of_getElem? (i := 178) (by decide +kernel))) (by decide +kernel)
theorem m_474 : Cond.codeWith yL_get cL_get 7 (some .int) [(0, 14, 17, 13), (0, 14, 21, 36), (0, 14, 25, 38), (0, 14, 29, 40), (0, 14, 33, 15)] ∈ xb := xb_mk (lw_in2 _ (List.mem_of_getElem? (i := 206) (by decide +kernel))) (by decide +kernel)
theorem m_475 : Cond.codeWith yL_set cL_set 8 (some .int) [(0, 23, 26, 13), (0, 23, 30, 36), (0, 23, 34, 38), (0, 23, 38, 40), (0, 23, 42, 15)] ∈ xb := xb_mk (lw_in5 _ (List.mem_of_getElem? (i := 95) (by decide +kernel))) (by decide +kernel)
theorem m_476 : Cond.codeWith yL_has cL_has 6 (some .int) [(0, 19, 22, 13), (0, 19, 26, 36), (0, 19, 30, 38), (0, 19, 34, 40), (0, 19, 38, 15)] ∈ xb := xb_mk (lw_in5 _ (List.mem_of_getElem? (i := 102) (by decide +kernel))) (by decide +kernel)
theorem m_477 : Cond.codeWith yL_remove cL_remove 5 (some .int) [(0, 17, 20, 13), (0, 17, 24, 36), (0, 17, 28, 38), (0, 17, 32, 40), (0, 17, 36, 15)] ∈ xb := xb_mk (lw_in5 _ (List.mem_of_getElem? (i := 109) (by decide +kernel))) (by decide +kernel)
theorem m_478 : Cond.codeWith yL_define cL_define 8 (some .int) [(0, 23, 26, 13), (0, 23, 30, 36), (0, 23, 34, 38), (0, 23, 38, 40), (0, 23, 42, 15)] ∈ xb := xb_mk (lw_in5 _ (List.mem_of_getElem? (i := 116) (by decide +kernel))) (by decide +kernel)
theorem m_479 : Cond.codeWith yL_about cL_about 6 (some .int) [(0, 12, 15, 13), (0, 12, 19, 36), (0, 12, 23, 38), (0, 12, 27, 40), (0, 12, 31, 15)] ∈ xb := xb_mk (lw_in5 _ (List.mem_of_getElem? (i := 128) (by decide +kernel))) (by decide +kernel)
theorem m_480 : Cond.codeWith yL_keys cL_keys 5 (some .int) [(0, 10, 13, 13), (0, 10, 17, 36), (0, 10, 21, 38), (0, 10, 25, 40), (0, 10, 29, 15)] ∈ xb := xb_mk (lw_in5 _ (List.mem_of_getElem? (i := 140) (by decide +kernel))) (by decide +kernel)
theorem m_481 : Cond.codeWith yL_key cL_key 4 (some .int) [(0, 9, 12, 68)] ∈ xb := xb_mk (lw_in5 _ (List.mem_of_getElem? (i := 151) (by decide +kernel))) (by decide +kernel)
theorem m_482 : Cond.codeWith yL_parent cL_parent 4 (some .int) [(0, 9, 12, 13), (0, 9, 15, 36), (0, 9, 18, 38), (0, 9, 21, 40), (0, 9, 24, 15)] ∈ xb := xb_mk (lw_in5 _ (List.mem_of_getElem? (i := 175) (by decide +kernel))) (by decide +kernel)
theorem m_483 : Cond.codeWith yL_setParent cL_setParent 5 (some .int) [(0, 17, 20, 13), (0, 17, 24, 36), (0, 17, 28, 38), (0, 17, 32, 40), (0, 17, 36, 15)] ∈ xb := xb_mk (lw_in5 _ (List.mem_of_getElem? (i := 182) (by decide +kernel))) (by decide +kernel)
theorem m_484 : Cond.codeWith yL_open cL_open 4 (some .int) [(0, 16, 19, 13), (0, 16, 22, 36), (0, 16, 25, 38), (0, 16, 28, 40), (0, 16, 31, 15)] ∈ xb := xb_mk (lw_in5 _ (List.mem_of_getElem? (i := 189) (by decide +kernel))) (by decide +kernel)
theorem m_485 : Cond.codeWith yL_shut cL_shut 4 (some .int) [(0, 16, 19, 13), (0, 16, 22, 36), (0, 16, 25, 38), (0, 16, 28, 40), (0, 16, 31, 15)] ∈ xb := xb_mk (lw_in5 _ (List.mem_of_getElem? (i := 196) (by decide +kernel))) (by decide +kernel)
theorem m_486 : Cond.codeWith yL_level cL_level 6 (some .int) [(0, 19, 22, 13), (0, 19, 26, 36), (0, 19, 30, 38), (0, 19, 34, 40), (0, 19, 38, 15)] ∈ xb := xb_mk (lw_in5 _ (List.mem_of_getElem? (i := 203) (by decide +kernel))) (by decide +kernel)
theorem m_487 : Cond.codeWith yL_assign cL_assign 5 (some .int) [(0, 10, 13, 13), (0, 10, 17, 36), (0, 10, 21, 38), (0, 10, 25, 40), (0, 10, 29, 15)] ∈ xb := xb_mk (lw_in5 _ (List.mem_of_getElem? (i := 219) (by decide +kernel))) (by decide +kernel)
theorem m_488 : Cond.codeWith yL_count cL_count 4 (some .int) [(0, 9, 12, 13)] ∈ xb := xb_mk (lw_in5 _ (List.mem_of_getElem? (i := 230) (by decide +kernel))) (by decide +kernel)
theorem m_489 : Cond.methodLink RL 7 yX5_make ∈ xb := xb_mk (lw_in1 _ (List.mem_of_getElem? (i := 202) (by decide +kernel))) (by decide +kernel)
theorem m_490 : Cond.instanceMethod yX5_make ∈ xb := xb_mk (lw_in1 _ (List.mem_of_getElem? (i := 203) (by decide +kernel))) (by decide +kernel)
theorem m_491 : Cond.selects RX5 yX5_make yX5_make ∈ xb := xb_mk (lw_in1 _ (List.mem_of_getElem? (i := 204) (by decide +kernel))) (by decide +kernel)
theorem m_492 : Cond.classLink RL 13 "java/lang/IllegalArgumentException" ∈ xb := xb_mk (lw_in1 _ (List.mem_of_getElem? (i := 200) (by decide +kernel))) (by decide +kernel)
theorem m_493 : Cond.methodLink RL 17 yX5_array ∈ xb := xb_mk (lw_in2 _ (List.mem_of_getElem? (i := 93) (by decide +kernel))) (by decide +kernel)
theorem m_494 : Cond.instanceMethod yX5_array ∈ xb := xb_mk (lw_in2 _ (List.mem_of_getElem? (i := 94) (by decide +kernel))) (by decide +kernel)
theorem m_495 : Cond.selects RX5 yX5_array yX5_array ∈ xb := xb_mk (lw_in2 _ (List.mem_of_getElem? (i := 95) (by decide +kernel))) (by decide +kernel)
theorem m_496 : Cond.methodLink RL 20 yX5_function ∈ xb := xb_mk (lw_in2 _ (List.mem_of_getElem? (i := 142) (by decide +kernel))) (by decide +kernel)
theorem m_497 : Cond.instanceMethod yX5_function ∈ xb := xb_mk (lw_in2 _ (List.mem_of_getElem? (i := 143) (by decide +kernel))) (by decide +kernel)
theorem m_498 : Cond.selects RX5 yX5_function yX5_function ∈ xb := xb_mk (lw_in2 _ (List.mem_of_getElem? (i := 144) (by decide +kernel))) (by decide +kernel)
theorem m_499 : Cond.methodLink RL 24 yX5_proxy ∈ xb := xb_mk (lw_in2 _ (List.mem_of_getElem? (i := 168) (by decide +kernel))) (by decide +kernel)
theorem m_500 : Cond.instanceMethod yX5_proxy ∈ xb := xb_mk (lw_in2 _ (List.mem_of_getElem? (i := 169) (by decide +kernel))) (by decide +kernel)
theorem m_501 : Cond.selects RX5 yX5_proxy yX5_proxy ∈ xb := xb_mk (lw_in2 _ (List.mem_of_getElem? (i := 170) (by decide +kernel))) (by decide +kernel)
theorem m_502 : Cond.methodLink RL 28 yX5_revoke ∈ xb := xb_mk (lw_in2 _ (List.mem_of_getElem? (i := 179) (by decide +kernel))) (by decide +kernel)
theorem m_503 : Cond.instanceMethod yX5_revoke ∈ xb := xb_mk (lw_in2 _ (List.mem_of_getElem? (i := 180) (by decide +kernel))) (by decide +kernel)
theorem m_504 : Cond.selects RX5 yX5_revoke yX5_revoke ∈ xb := xb_mk (lw_in2 _ (List.mem_of_getElem? (i := 181) (by decide +kernel))) (by decide +kernel)
theorem m_505 : Cond.methodLink RL 32 yX5_get ∈ xb := xb_mk (lw_in2 _ (List.mem_of_getElem? (i := 210) (by decide +kernel))) (by decide +kernel)
theorem m_506 : Cond.instanceMethod yX5_get ∈ xb := xb_mk (lw_in2 _ (List.mem_of_getElem? (i := 211) (by decide +kernel))) (by decide +kernel)
theorem m_507 : Cond.selects RX5 yX5_get yX5_get ∈ xb := xb_mk (lw_in2 _ (List.mem_of_getElem? (i := 212) (by decide +kernel))) (by decide +kernel)
theorem m_508 : Cond.methodLink RL 42 yX5_set ∈ xb := xb_mk (lw_in5 _ (List.mem_of_getElem? (i := 96) (by decide +kernel))) (by decide +kernel)
theorem m_509 : Cond.instanceMethod yX5_set ∈ xb := xb_mk (lw_in5 _ (List.mem_of_getElem? (i := 97) (by decide +kernel))) (by decide +kernel)
theorem m_510 : Cond.selects RX5 yX5_set yX5_set ∈ xb := xb_mk (lw_in5 _ (List.mem_of_getElem? (i := 98) (by decide +kernel))) (by decide +kernel)
theorem m_511 : Cond.methodLink RL 46 yX5_has ∈ xb := xb_mk (lw_in5 _ (List.mem_of_getElem? (i := 103) (by decide +kernel))) (by decide +kernel)
theorem m_512 : Cond.instanceMethod yX5_has ∈ xb := xb_mk (lw_in5 _ (List.mem_of_getElem? (i := 104) (by decide +kernel))) (by decide +kernel)
theorem m_513 : Cond.selects RX5 yX5_has yX5_has ∈ xb := xb_mk (lw_in5 _ (List.mem_of_getElem? (i := 105) (by decide +kernel))) (by decide +kernel)
theorem m_514 : Cond.methodLink RL 50 yX5_remove ∈ xb := xb_mk (lw_in5 _ (List.mem_of_getElem? (i := 110) (by decide +kernel))) (by decide +kernel)
theorem m_515 : Cond.instanceMethod yX5_remove ∈ xb := xb_mk (lw_in5 _ (List.mem_of_getElem? (i := 111) (by decide +kernel))) (by decide +kernel)
theorem m_516 : Cond.selects RX5 yX5_remove yX5_remove ∈ xb := xb_mk (lw_in5 _ (List.mem_of_getElem? (i := 112) (by decide +kernel))) (by decide +kernel)
theorem m_517 : Cond.methodLink RL 54 yX5_define ∈ xb := xb_mk (lw_in5 _ (List.mem_of_getElem? (i := 117) (by decide +kernel))) (by decide +kernel)
theorem m_518 : Cond.instanceMethod yX5_define ∈ xb := xb_mk (lw_in5 _ (List.mem_of_getElem? (i := 118) (by decide +kernel))) (by decide +kernel)
theorem m_519 : Cond.selects RX5 yX5_define yX5_define ∈ xb := xb_mk (lw_in5 _ (List.mem_of_getElem? (i := 119) (by decide +kernel))) (by decide +kernel)
theorem m_520 : Cond.methodLink RL 58 yX5_about ∈ xb := xb_mk (lw_in5 _ (List.mem_of_getElem? (i := 129) (by decide +kernel))) (by decide +kernel)
theorem m_521 : Cond.instanceMethod yX5_about ∈ xb := xb_mk (lw_in5 _ (List.mem_of_getElem? (i := 130) (by decide +kernel))) (by decide +kernel)
theorem m_522 : Cond.selects RX5 yX5_about yX5_about ∈ xb := xb_mk (lw_in5 _ (List.mem_of_getElem? (i := 131) (by decide +kernel))) (by decide +kernel)
theorem m_523 : Cond.methodLink RL 61 yX5_keys ∈ xb := xb_mk (lw_in5 _ (List.mem_of_getElem? (i := 141) (by decide +kernel))) (by decide +kernel)
theorem m_524 : Cond.instanceMethod yX5_keys ∈ xb := xb_mk (lw_in5 _ (List.mem_of_getElem? (i := 142) (by decide +kernel))) (by decide +kernel)
theorem m_525 : Cond.selects RX5 yX5_keys yX5_keys ∈ xb := xb_mk (lw_in5 _ (List.mem_of_getElem? (i := 143) (by decide +kernel))) (by decide +kernel)
theorem m_526 : Cond.methodLink RL 65 yX5_key ∈ xb := xb_mk (lw_in5 _ (List.mem_of_getElem? (i := 153) (by decide +kernel))) (by decide +kernel)
theorem m_527 : Cond.instanceMethod yX5_key ∈ xb := xb_mk (lw_in5 _ (List.mem_of_getElem? (i := 154) (by decide +kernel))) (by decide +kernel)
theorem m_528 : Cond.selects RX5 yX5_key yX5_key ∈ xb := xb_mk (lw_in5 _ (List.mem_of_getElem? (i := 155) (by decide +kernel))) (by decide +kernel)
theorem m_529 : Cond.classLink RL 68 "java/lang/IndexOutOfBoundsException" ∈ xb := xb_mk (lw_in5 _ (List.mem_of_getElem? (i := 152) (by decide +kernel))) (by decide +kernel)
theorem m_530 : Cond.methodLink RL 70 yX5_parent ∈ xb := xb_mk (lw_in5 _ (List.mem_of_getElem? (i := 176) (by decide +kernel))) (by decide +kernel)
theorem m_531 : Cond.instanceMethod yX5_parent ∈ xb := xb_mk (lw_in5 _ (List.mem_of_getElem? (i := 177) (by decide +kernel))) (by decide +kernel)
theorem m_532 : Cond.selects RX5 yX5_parent yX5_parent ∈ xb := xb_mk (lw_in5 _ (List.mem_of_getElem? (i := 178) (by decide +kernel))) (by decide +kernel)
theorem m_533 : Cond.methodLink RL 73 yX5_setParent ∈ xb := xb_mk (lw_in5 _ (List.mem_of_getElem? (i := 183) (by decide +kernel))) (by decide +kernel)
theorem m_534 : Cond.instanceMethod yX5_setParent ∈ xb := xb_mk (lw_in5 _ (List.mem_of_getElem? (i := 184) (by decide +kernel))) (by decide +kernel)
theorem m_535 : Cond.selects RX5 yX5_setParent yX5_setParent ∈ xb := xb_mk (lw_in5 _ (List.mem_of_getElem? (i := 185) (by decide +kernel))) (by decide +kernel)
theorem m_536 : Cond.methodLink RL 76 yX5_open ∈ xb := xb_mk (lw_in5 _ (List.mem_of_getElem? (i := 190) (by decide +kernel))) (by decide +kernel)
theorem m_537 : Cond.instanceMethod yX5_open ∈ xb := xb_mk (lw_in5 _ (List.mem_of_getElem? (i := 191) (by decide +kernel))) (by decide +kernel)
theorem m_538 : Cond.selects RX5 yX5_open yX5_open ∈ xb := xb_mk (lw_in5 _ (List.mem_of_getElem? (i := 192) (by decide +kernel))) (by decide +kernel)
theorem m_539 : Cond.methodLink RL 79 yX5_shut ∈ xb := xb_mk (lw_in5 _ (List.mem_of_getElem? (i := 197) (by decide +kernel))) (by decide +kernel)
theorem m_540 : Cond.instanceMethod yX5_shut ∈ xb := xb_mk (lw_in5 _ (List.mem_of_getElem? (i := 198) (by decide +kernel))) (by decide +kernel)
theorem m_541 : Cond.selects RX5 yX5_shut yX5_shut ∈ xb := xb_mk (lw_in5 _ (List.mem_of_getElem? (i := 199) (by decide +kernel))) (by decide +kernel)
theorem m_542 : Cond.methodLink RL 82 yX5_level ∈ xb := xb_mk (lw_in5 _ (List.mem_of_getElem? (i := 204) (by decide +kernel))) (by decide +kernel)
theorem m_543 : Cond.instanceMethod yX5_level ∈ xb := xb_mk (lw_in5 _ (List.mem_of_getElem? (i := 205) (by decide +kernel))) (by decide +kernel)
theorem m_544 : Cond.selects RX5 yX5_level yX5_level ∈ xb := xb_mk (lw_in5 _ (List.mem_of_getElem? (i := 206) (by decide +kernel))) (by decide +kernel)
theorem m_545 : Cond.methodLink RL 86 yX5_assign ∈ xb := xb_mk (lw_in5 _ (List.mem_of_getElem? (i := 220) (by decide +kernel))) (by decide +kernel)
theorem m_546 : Cond.instanceMethod yX5_assign ∈ xb := xb_mk (lw_in5 _ (List.mem_of_getElem? (i := 221) (by decide +kernel))) (by decide +kernel)
theorem m_547 : Cond.selects RX5 yX5_assign yX5_assign ∈ xb := xb_mk (lw_in5 _ (List.mem_of_getElem? (i := 222) (by decide +kernel))) (by decide +kernel)
theorem m_548 : Cond.methodLink RL 89 yX5_count ∈ xb := xb_mk (lw_in5 _ (List.mem_of_getElem? (i := 231) (by decide +kernel))) (by decide +kernel)
theorem m_549 : Cond.instanceMethod yX5_count ∈ xb := xb_mk (lw_in5 _ (List.mem_of_getElem? (i := 232) (by decide +kernel))) (by decide +kernel)
theorem m_550 : Cond.selects RX5 yX5_count yX5_count ∈ xb := xb_mk (lw_in5 _ (List.mem_of_getElem? (i := 233) (by decide +kernel))) (by decide +kernel)
theorem dL_about_0 : decode cL_about 0 = .ok (.aload 4, 2) := by decide +kernel
theorem dL_about_15 : decode cL_about 15 = .ok (.astore 5, 2) := by decide +kernel
theorem dL_about_17 : decode cL_about 17 = .ok (.iconst 1, 1) := by decide +kernel
theorem dL_about_18 : decode cL_about 18 = .ok (.ireturn, 1) := by decide +kernel
theorem dL_about_2 : decode cL_about 2 = .ok (.iconst 0, 1) := by decide +kernel
theorem dL_about_3 : decode cL_about 3 = .ok (.aload_n 0, 1) := by decide +kernel
theorem dL_about_4 : decode cL_about 4 = .ok (.iload_n 1, 1) := by decide +kernel
theorem dL_about_5 : decode cL_about 5 = .ok (.iload_n 2, 1) := by decide +kernel
theorem dL_about_6 : decode cL_about 6 = .ok (.iload_n 3, 1) := by decide +kernel
theorem dL_about_7 : decode cL_about 7 = .ok (.invokevirtual 58, 3) := by decide +kernel
theorem dL_array_0 : decode cL_array 0 = .ok (.aload_n 2, 1) := by decide +kernel
theorem dL_array_1 : decode cL_array 1 = .ok (.iconst 0, 1) := by decide +kernel
theorem dL_array_12 : decode cL_array 12 = .ok (.astore_n 3, 1) := by decide +kernel
theorem dL_array_13 : decode cL_array 13 = .ok (.iconst 1, 1) := by decide +kernel
theorem dL_array_14 : decode cL_array 14 = .ok (.ireturn, 1) := by decide +kernel
theorem dL_array_18 : decode cL_array 18 = .ok (.iconst 0, 1) := by decide +kernel
theorem dL_array_19 : decode cL_array 19 = .ok (.ireturn, 1) := by decide +kernel
theorem dL_array_2 : decode cL_array 2 = .ok (.aload_n 0, 1) := by decide +kernel
theorem dL_array_3 : decode cL_array 3 = .ok (.iload_n 1, 1) := by decide +kernel
theorem dL_array_4 : decode cL_array 4 = .ok (.invokevirtual 17, 3) := by decide +kernel
theorem dL_array_7 : decode cL_array 7 = .ok (.i2l, 1) := by decide +kernel
theorem dL_array_8 : decode cL_array 8 = .ok (.lastore, 1) := by decide +kernel
theorem dL_array_9 : decode cL_array 9 = .ok (.goto 9, 3) := by decide +kernel
theorem dL_assign_0 : decode cL_assign 0 = .ok (.aload_n 3, 1) := by decide +kernel
theorem dL_assign_1 : decode cL_assign 1 = .ok (.iconst 0, 1) := by decide +kernel
theorem dL_assign_13 : decode cL_assign 13 = .ok (.astore 4, 2) := by decide +kernel
theorem dL_assign_15 : decode cL_assign 15 = .ok (.iconst 1, 1) := by decide +kernel
theorem dL_assign_16 : decode cL_assign 16 = .ok (.ireturn, 1) := by decide +kernel
theorem dL_assign_2 : decode cL_assign 2 = .ok (.aload_n 0, 1) := by decide +kernel
theorem dL_assign_3 : decode cL_assign 3 = .ok (.iload_n 1, 1) := by decide +kernel
theorem dL_assign_4 : decode cL_assign 4 = .ok (.iload_n 2, 1) := by decide +kernel
theorem dL_assign_5 : decode cL_assign 5 = .ok (.invokevirtual 86, 3) := by decide +kernel
theorem dL_count_0 : decode cL_count 0 = .ok (.aload_n 2, 1) := by decide +kernel
theorem dL_count_1 : decode cL_count 1 = .ok (.iconst 0, 1) := by decide +kernel
theorem dL_count_12 : decode cL_count 12 = .ok (.astore_n 3, 1) := by decide +kernel
theorem dL_count_13 : decode cL_count 13 = .ok (.iconst 1, 1) := by decide +kernel
theorem dL_count_14 : decode cL_count 14 = .ok (.ireturn, 1) := by decide +kernel
theorem dL_count_15 : decode cL_count 15 = .ok (.iconst 0, 1) := by decide +kernel
theorem dL_count_16 : decode cL_count 16 = .ok (.ireturn, 1) := by decide +kernel
theorem dL_count_2 : decode cL_count 2 = .ok (.aload_n 0, 1) := by decide +kernel
theorem dL_count_3 : decode cL_count 3 = .ok (.iload_n 1, 1) := by decide +kernel
theorem dL_count_4 : decode cL_count 4 = .ok (.invokevirtual 89, 3) := by decide +kernel
theorem dL_count_7 : decode cL_count 7 = .ok (.i2l, 1) := by decide +kernel
theorem dL_count_8 : decode cL_count 8 = .ok (.lastore, 1) := by decide +kernel
theorem dL_count_9 : decode cL_count 9 = .ok (.goto 6, 3) := by decide +kernel
theorem dL_define_0 : decode cL_define 0 = .ok (.aload 6, 2) := by decide +kernel
theorem dL_define_11 : decode cL_define 11 = .ok (.invokevirtual 54, 3) := by decide +kernel
theorem dL_define_2 : decode cL_define 2 = .ok (.iconst 0, 1) := by decide +kernel
theorem dL_define_26 : decode cL_define 26 = .ok (.astore 7, 2) := by decide +kernel
theorem dL_define_28 : decode cL_define 28 = .ok (.iconst 1, 1) := by decide +kernel
theorem dL_define_29 : decode cL_define 29 = .ok (.ireturn, 1) := by decide +kernel
theorem dL_define_3 : decode cL_define 3 = .ok (.aload_n 0, 1) := by decide +kernel
theorem dL_define_4 : decode cL_define 4 = .ok (.iload_n 1, 1) := by decide +kernel
theorem dL_define_5 : decode cL_define 5 = .ok (.iload_n 2, 1) := by decide +kernel
theorem dL_define_6 : decode cL_define 6 = .ok (.iload_n 3, 1) := by decide +kernel
theorem dL_define_7 : decode cL_define 7 = .ok (.iload 4, 2) := by decide +kernel
theorem dL_define_9 : decode cL_define 9 = .ok (.iload 5, 2) := by decide +kernel
theorem dL_function_0 : decode cL_function 0 = .ok (.aload 4, 2) := by decide +kernel
theorem dL_function_10 : decode cL_function 10 = .ok (.i2l, 1) := by decide +kernel
theorem dL_function_11 : decode cL_function 11 = .ok (.lastore, 1) := by decide +kernel
theorem dL_function_12 : decode cL_function 12 = .ok (.goto 11, 3) := by decide +kernel
theorem dL_function_15 : decode cL_function 15 = .ok (.astore 5, 2) := by decide +kernel
theorem dL_function_17 : decode cL_function 17 = .ok (.iconst 1, 1) := by decide +kernel
theorem dL_function_18 : decode cL_function 18 = .ok (.ireturn, 1) := by decide +kernel
theorem dL_function_2 : decode cL_function 2 = .ok (.iconst 0, 1) := by decide +kernel
theorem dL_function_23 : decode cL_function 23 = .ok (.iconst 0, 1) := by decide +kernel
theorem dL_function_24 : decode cL_function 24 = .ok (.ireturn, 1) := by decide +kernel
theorem dL_function_3 : decode cL_function 3 = .ok (.aload_n 0, 1) := by decide +kernel
theorem dL_function_4 : decode cL_function 4 = .ok (.iload_n 1, 1) := by decide +kernel
theorem dL_function_5 : decode cL_function 5 = .ok (.iload_n 2, 1) := by decide +kernel
theorem dL_function_6 : decode cL_function 6 = .ok (.iload_n 3, 1) := by decide +kernel
theorem dL_function_7 : decode cL_function 7 = .ok (.invokevirtual 20, 3) := by decide +kernel
theorem dL_get_0 : decode cL_get 0 = .ok (.aload 5, 2) := by decide +kernel
theorem dL_get_17 : decode cL_get 17 = .ok (.astore 6, 2) := by decide +kernel
theorem dL_get_19 : decode cL_get 19 = .ok (.iconst 1, 1) := by decide +kernel
theorem dL_get_2 : decode cL_get 2 = .ok (.iconst 0, 1) := by decide +kernel
theorem dL_get_20 : decode cL_get 20 = .ok (.ireturn, 1) := by decide +kernel
theorem dL_get_3 : decode cL_get 3 = .ok (.aload_n 0, 1) := by decide +kernel
theorem dL_get_4 : decode cL_get 4 = .ok (.iload_n 1, 1) := by decide +kernel
theorem dL_get_5 : decode cL_get 5 = .ok (.iload_n 2, 1) := by decide +kernel
theorem dL_get_6 : decode cL_get 6 = .ok (.iload_n 3, 1) := by decide +kernel
theorem dL_get_7 : decode cL_get 7 = .ok (.iload 4, 2) := by decide +kernel
theorem dL_get_9 : decode cL_get 9 = .ok (.invokevirtual 32, 3) := by decide +kernel
theorem dL_has_0 : decode cL_has 0 = .ok (.aload 4, 2) := by decide +kernel
theorem dL_has_2 : decode cL_has 2 = .ok (.iconst 0, 1) := by decide +kernel
theorem dL_has_22 : decode cL_has 22 = .ok (.astore 5, 2) := by decide +kernel
theorem dL_has_24 : decode cL_has 24 = .ok (.iconst 1, 1) := by decide +kernel
theorem dL_has_25 : decode cL_has 25 = .ok (.ireturn, 1) := by decide +kernel
theorem dL_has_3 : decode cL_has 3 = .ok (.aload_n 0, 1) := by decide +kernel
theorem dL_has_4 : decode cL_has 4 = .ok (.iload_n 1, 1) := by decide +kernel
theorem dL_has_5 : decode cL_has 5 = .ok (.iload_n 2, 1) := by decide +kernel
theorem dL_has_6 : decode cL_has 6 = .ok (.iload_n 3, 1) := by decide +kernel
theorem dL_has_7 : decode cL_has 7 = .ok (.invokevirtual 46, 3) := by decide +kernel
theorem dL_key_0 : decode cL_key 0 = .ok (.aload_n 2, 1) := by decide +kernel
theorem dL_key_1 : decode cL_key 1 = .ok (.iconst 0, 1) := by decide +kernel
theorem dL_key_12 : decode cL_key 12 = .ok (.astore_n 3, 1) := by decide +kernel
theorem dL_key_13 : decode cL_key 13 = .ok (.iconst 1, 1) := by decide +kernel
theorem dL_key_14 : decode cL_key 14 = .ok (.ireturn, 1) := by decide +kernel
theorem dL_key_2 : decode cL_key 2 = .ok (.aload_n 0, 1) := by decide +kernel
theorem dL_key_3 : decode cL_key 3 = .ok (.iload_n 1, 1) := by decide +kernel
theorem dL_key_4 : decode cL_key 4 = .ok (.invokevirtual 65, 3) := by decide +kernel
theorem dL_keys_0 : decode cL_keys 0 = .ok (.aload_n 3, 1) := by decide +kernel
theorem dL_keys_1 : decode cL_keys 1 = .ok (.iconst 0, 1) := by decide +kernel
theorem dL_keys_13 : decode cL_keys 13 = .ok (.astore 4, 2) := by decide +kernel
theorem dL_keys_15 : decode cL_keys 15 = .ok (.iconst 1, 1) := by decide +kernel
theorem dL_keys_16 : decode cL_keys 16 = .ok (.ireturn, 1) := by decide +kernel
theorem dL_keys_2 : decode cL_keys 2 = .ok (.aload_n 0, 1) := by decide +kernel
theorem dL_keys_3 : decode cL_keys 3 = .ok (.iload_n 1, 1) := by decide +kernel
theorem dL_keys_4 : decode cL_keys 4 = .ok (.iload_n 2, 1) := by decide +kernel
theorem dL_keys_5 : decode cL_keys 5 = .ok (.invokevirtual 61, 3) := by decide +kernel
theorem dL_level_0 : decode cL_level 0 = .ok (.aload 4, 2) := by decide +kernel
theorem dL_level_2 : decode cL_level 2 = .ok (.iconst 0, 1) := by decide +kernel
theorem dL_level_22 : decode cL_level 22 = .ok (.astore 5, 2) := by decide +kernel
theorem dL_level_24 : decode cL_level 24 = .ok (.iconst 1, 1) := by decide +kernel
theorem dL_level_25 : decode cL_level 25 = .ok (.ireturn, 1) := by decide +kernel
theorem dL_level_3 : decode cL_level 3 = .ok (.aload_n 0, 1) := by decide +kernel
theorem dL_level_4 : decode cL_level 4 = .ok (.iload_n 1, 1) := by decide +kernel
theorem dL_level_5 : decode cL_level 5 = .ok (.iload_n 2, 1) := by decide +kernel
theorem dL_level_6 : decode cL_level 6 = .ok (.iload_n 3, 1) := by decide +kernel
theorem dL_level_7 : decode cL_level 7 = .ok (.invokevirtual 82, 3) := by decide +kernel
theorem dL_make_0 : decode cL_make 0 = .ok (.aload_n 2, 1) := by decide +kernel
theorem dL_make_1 : decode cL_make 1 = .ok (.iconst 0, 1) := by decide +kernel
theorem dL_make_12 : decode cL_make 12 = .ok (.astore_n 3, 1) := by decide +kernel
theorem dL_make_13 : decode cL_make 13 = .ok (.iconst 1, 1) := by decide +kernel
theorem dL_make_14 : decode cL_make 14 = .ok (.ireturn, 1) := by decide +kernel
theorem dL_make_18 : decode cL_make 18 = .ok (.iconst 0, 1) := by decide +kernel
theorem dL_make_19 : decode cL_make 19 = .ok (.ireturn, 1) := by decide +kernel
theorem dL_make_2 : decode cL_make 2 = .ok (.aload_n 0, 1) := by decide +kernel
theorem dL_make_3 : decode cL_make 3 = .ok (.iload_n 1, 1) := by decide +kernel
theorem dL_make_4 : decode cL_make 4 = .ok (.invokevirtual 7, 3) := by decide +kernel
theorem dL_make_7 : decode cL_make 7 = .ok (.i2l, 1) := by decide +kernel
theorem dL_make_8 : decode cL_make 8 = .ok (.lastore, 1) := by decide +kernel
theorem dL_make_9 : decode cL_make 9 = .ok (.goto 9, 3) := by decide +kernel
theorem dL_open_0 : decode cL_open 0 = .ok (.aload_n 2, 1) := by decide +kernel
theorem dL_open_1 : decode cL_open 1 = .ok (.iconst 0, 1) := by decide +kernel
theorem dL_open_19 : decode cL_open 19 = .ok (.astore_n 3, 1) := by decide +kernel
theorem dL_open_2 : decode cL_open 2 = .ok (.aload_n 0, 1) := by decide +kernel
theorem dL_open_20 : decode cL_open 20 = .ok (.iconst 1, 1) := by decide +kernel
theorem dL_open_21 : decode cL_open 21 = .ok (.ireturn, 1) := by decide +kernel
theorem dL_open_3 : decode cL_open 3 = .ok (.iload_n 1, 1) := by decide +kernel
theorem dL_open_4 : decode cL_open 4 = .ok (.invokevirtual 76, 3) := by decide +kernel
theorem dL_parent_0 : decode cL_parent 0 = .ok (.aload_n 2, 1) := by decide +kernel
theorem dL_parent_1 : decode cL_parent 1 = .ok (.iconst 0, 1) := by decide +kernel
theorem dL_parent_12 : decode cL_parent 12 = .ok (.astore_n 3, 1) := by decide +kernel
theorem dL_parent_13 : decode cL_parent 13 = .ok (.iconst 1, 1) := by decide +kernel
theorem dL_parent_14 : decode cL_parent 14 = .ok (.ireturn, 1) := by decide +kernel
theorem dL_parent_2 : decode cL_parent 2 = .ok (.aload_n 0, 1) := by decide +kernel
theorem dL_parent_3 : decode cL_parent 3 = .ok (.iload_n 1, 1) := by decide +kernel
theorem dL_parent_4 : decode cL_parent 4 = .ok (.invokevirtual 70, 3) := by decide +kernel
theorem dL_proxy_0 : decode cL_proxy 0 = .ok (.aload_n 3, 1) := by decide +kernel
theorem dL_proxy_1 : decode cL_proxy 1 = .ok (.iconst 0, 1) := by decide +kernel
theorem dL_proxy_13 : decode cL_proxy 13 = .ok (.astore 4, 2) := by decide +kernel
theorem dL_proxy_15 : decode cL_proxy 15 = .ok (.iconst 1, 1) := by decide +kernel
theorem dL_proxy_16 : decode cL_proxy 16 = .ok (.ireturn, 1) := by decide +kernel
theorem dL_proxy_2 : decode cL_proxy 2 = .ok (.aload_n 0, 1) := by decide +kernel
theorem dL_proxy_3 : decode cL_proxy 3 = .ok (.iload_n 1, 1) := by decide +kernel
theorem dL_proxy_4 : decode cL_proxy 4 = .ok (.iload_n 2, 1) := by decide +kernel
theorem dL_proxy_5 : decode cL_proxy 5 = .ok (.invokevirtual 24, 3) := by decide +kernel
theorem dL_remove_0 : decode cL_remove 0 = .ok (.aload_n 3, 1) := by decide +kernel
theorem dL_remove_1 : decode cL_remove 1 = .ok (.iconst 0, 1) := by decide +kernel
theorem dL_remove_2 : decode cL_remove 2 = .ok (.aload_n 0, 1) := by decide +kernel
theorem dL_remove_20 : decode cL_remove 20 = .ok (.astore 4, 2) := by decide +kernel
theorem dL_remove_22 : decode cL_remove 22 = .ok (.iconst 1, 1) := by decide +kernel
theorem dL_remove_23 : decode cL_remove 23 = .ok (.ireturn, 1) := by decide +kernel
theorem dL_remove_3 : decode cL_remove 3 = .ok (.iload_n 1, 1) := by decide +kernel
theorem dL_remove_4 : decode cL_remove 4 = .ok (.iload_n 2, 1) := by decide +kernel
theorem dL_remove_5 : decode cL_remove 5 = .ok (.invokevirtual 50, 3) := by decide +kernel
theorem dL_revoke_0 : decode cL_revoke 0 = .ok (.aload_n 2, 1) := by decide +kernel
theorem dL_revoke_1 : decode cL_revoke 1 = .ok (.iconst 0, 1) := by decide +kernel
theorem dL_revoke_19 : decode cL_revoke 19 = .ok (.astore_n 3, 1) := by decide +kernel
theorem dL_revoke_2 : decode cL_revoke 2 = .ok (.aload_n 0, 1) := by decide +kernel
theorem dL_revoke_20 : decode cL_revoke 20 = .ok (.iconst 1, 1) := by decide +kernel
theorem dL_revoke_21 : decode cL_revoke 21 = .ok (.ireturn, 1) := by decide +kernel
theorem dL_revoke_3 : decode cL_revoke 3 = .ok (.iload_n 1, 1) := by decide +kernel
theorem dL_revoke_4 : decode cL_revoke 4 = .ok (.invokevirtual 28, 3) := by decide +kernel
theorem dL_setParent_0 : decode cL_setParent 0 = .ok (.aload_n 3, 1) := by decide +kernel
theorem dL_setParent_1 : decode cL_setParent 1 = .ok (.iconst 0, 1) := by decide +kernel
theorem dL_setParent_2 : decode cL_setParent 2 = .ok (.aload_n 0, 1) := by decide +kernel
theorem dL_setParent_20 : decode cL_setParent 20 = .ok (.astore 4, 2) := by decide +kernel
theorem dL_setParent_22 : decode cL_setParent 22 = .ok (.iconst 1, 1) := by decide +kernel
theorem dL_setParent_23 : decode cL_setParent 23 = .ok (.ireturn, 1) := by decide +kernel
theorem dL_setParent_3 : decode cL_setParent 3 = .ok (.iload_n 1, 1) := by decide +kernel
theorem dL_setParent_4 : decode cL_setParent 4 = .ok (.iload_n 2, 1) := by decide +kernel
theorem dL_setParent_5 : decode cL_setParent 5 = .ok (.invokevirtual 73, 3) := by decide +kernel
theorem dL_set_0 : decode cL_set 0 = .ok (.aload 6, 2) := by decide +kernel
theorem dL_set_11 : decode cL_set 11 = .ok (.invokevirtual 42, 3) := by decide +kernel
theorem dL_set_2 : decode cL_set 2 = .ok (.iconst 0, 1) := by decide +kernel
theorem dL_set_26 : decode cL_set 26 = .ok (.astore 7, 2) := by decide +kernel
theorem dL_set_28 : decode cL_set 28 = .ok (.iconst 1, 1) := by decide +kernel
theorem dL_set_29 : decode cL_set 29 = .ok (.ireturn, 1) := by decide +kernel
theorem dL_set_3 : decode cL_set 3 = .ok (.aload_n 0, 1) := by decide +kernel
theorem dL_set_4 : decode cL_set 4 = .ok (.iload_n 1, 1) := by decide +kernel
theorem dL_set_5 : decode cL_set 5 = .ok (.iload_n 2, 1) := by decide +kernel
theorem dL_set_6 : decode cL_set 6 = .ok (.iload_n 3, 1) := by decide +kernel
theorem dL_set_7 : decode cL_set 7 = .ok (.iload 4, 2) := by decide +kernel
theorem dL_set_9 : decode cL_set 9 = .ok (.iload 5, 2) := by decide +kernel
theorem dL_shut_0 : decode cL_shut 0 = .ok (.aload_n 2, 1) := by decide +kernel
theorem dL_shut_1 : decode cL_shut 1 = .ok (.iconst 0, 1) := by decide +kernel
theorem dL_shut_19 : decode cL_shut 19 = .ok (.astore_n 3, 1) := by decide +kernel
theorem dL_shut_2 : decode cL_shut 2 = .ok (.aload_n 0, 1) := by decide +kernel
theorem dL_shut_20 : decode cL_shut 20 = .ok (.iconst 1, 1) := by decide +kernel
theorem dL_shut_21 : decode cL_shut 21 = .ok (.ireturn, 1) := by decide +kernel
theorem dL_shut_3 : decode cL_shut 3 = .ok (.iload_n 1, 1) := by decide +kernel
theorem dL_shut_4 : decode cL_shut 4 = .ok (.invokevirtual 79, 3) := by decide +kernel
theorem x_uL0 {f : Nat → Int64} {x : Int64} : vp_updL f (Int32.toNatClampNeg 0) x 0 = x := by rw [x_n0]; exact pk_uLs
theorem x_atL {f : Nat → Int64} {x : Int64} (h : f 0 = x) : f (Int32.toNatClampNeg 0) = x := by rw [x_n0]; exact h
