theorem w_530 : Cond.methodLink RL 59 yX11_alike ∈ TG := tg (sg_6 _ (List.mem_of_getElem? (i := 130) (by decide +kernel))) (by decide +kernel)
theorem w_531 : Cond.code yX11_alike cX11_alike 2 (some .int) ∈ TG := tg (sg_6 _ (List.mem_of_getElem? (i := 133) (by decide +kernel))) (by decide +kernel)
theorem w_532 : Cond.instanceMethod yX11_alike ∈ TG := tg (sg_6 _ (List.mem_of_getElem? (i := 131) (by decide +kernel))) (by decide +kernel)
theorem w_533 : Cond.selects RX11 yX11_alike yX11_alike ∈ TG := tg (sg_6 _ (List.mem_of_getElem? (i := 132) (by decide +kernel))) (by decide +kernel)
theorem w_534 : Cond.classLink RL 26 "java/lang/IndexOutOfBoundsException" ∈ TG := tg (sg_5 _ (List.mem_of_getElem? (i := 156) (by decide +kernel))) (by decide +kernel)
theorem w_535 : Cond.castable "java/lang/IndexOutOfBoundsException" "java/lang/IndexOutOfBoundsException" ∈ NWL := List.mem_filter.mpr ⟨(sh_5 _ (List.mem_of_getElem? (i := 215) (by decide +kernel))), by decide +kernel⟩
theorem w_536 : Cond.methodLink RL 192 yX11_badWires ∈ TG := tg (sg_8 _ (List.mem_of_getElem? (i := 227) (by decide +kernel))) (by decide +kernel)
theorem w_537 : Cond.code yX11_badWires cX11_badWires 4 (some .int) ∈ TG := tg (sg_8 _ (List.mem_of_getElem? (i := 230) (by decide +kernel))) (by decide +kernel)
theorem w_538 : Cond.instanceMethod yX11_badWires ∈ TG := tg (sg_8 _ (List.mem_of_getElem? (i := 228) (by decide +kernel))) (by decide +kernel)
theorem w_539 : Cond.selects RX11 yX11_badWires yX11_badWires ∈ TG := tg (sg_8 _ (List.mem_of_getElem? (i := 229) (by decide +kernel))) (by decide +kernel)
theorem w_540 : Cond.classLink RL 24 "java/lang/IllegalArgumentException" ∈ TG := tg (sg_5 _ (List.mem_of_getElem? (i := 155) (by decide +kernel))) (by decide +kernel)
theorem w_541 : Cond.castable "java/lang/IllegalArgumentException" "java/lang/IllegalArgumentException" ∈ NWL := List.mem_filter.mpr ⟨(sh_5 _ (List.mem_of_getElem? (i := 196) (by decide +kernel))), by decide +kernel⟩
theorem w_542 : Cond.methodLink RL 204 yX11_begins ∈ TG := tg (sg_9 _ (List.mem_of_getElem? (i := 56) (by decide +kernel))) (by decide +kernel)
theorem w_543 : Cond.code yX11_begins cX11_begins 4 (some .int) ∈ TG := tg (sg_9 _ (List.mem_of_getElem? (i := 59) (by decide +kernel))) (by decide +kernel)
theorem w_544 : Cond.instanceMethod yX11_begins ∈ TG := tg (sg_9 _ (List.mem_of_getElem? (i := 57) (by decide +kernel))) (by decide +kernel)
theorem w_545 : Cond.selects RX11 yX11_begins yX11_begins ∈ TG := tg (sg_9 _ (List.mem_of_getElem? (i := 58) (by decide +kernel))) (by decide +kernel)
theorem w_546 : Cond.methodLink RL 179 yX11_board ∈ TG := tg (sg_8 _ (List.mem_of_getElem? (i := 149) (by decide +kernel))) (by decide +kernel)
theorem w_547 : Cond.code yX11_board cX11_board 3 (some .int) ∈ TG := tg (sg_8 _ (List.mem_of_getElem? (i := 152) (by decide +kernel))) (by decide +kernel)
theorem w_548 : Cond.instanceMethod yX11_board ∈ TG := tg (sg_8 _ (List.mem_of_getElem? (i := 150) (by decide +kernel))) (by decide +kernel)
theorem w_549 : Cond.selects RX11 yX11_board yX11_board ∈ TG := tg (sg_8 _ (List.mem_of_getElem? (i := 151) (by decide +kernel))) (by decide +kernel)
theorem w_550 : Cond.methodLink RL 146 yX11_breakChain ∈ TG := tg (sg_8 _ (List.mem_of_getElem? (i := 26) (by decide +kernel))) (by decide +kernel)
theorem w_551 : Cond.code yX11_breakChain cX11_breakChain 4 (some .int) ∈ TG := tg (sg_8 _ (List.mem_of_getElem? (i := 29) (by decide +kernel))) (by decide +kernel)
theorem w_552 : Cond.instanceMethod yX11_breakChain ∈ TG := tg (sg_8 _ (List.mem_of_getElem? (i := 27) (by decide +kernel))) (by decide +kernel)
theorem w_553 : Cond.selects RX11 yX11_breakChain yX11_breakChain ∈ TG := tg (sg_8 _ (List.mem_of_getElem? (i := 28) (by decide +kernel))) (by decide +kernel)
theorem w_554 : Cond.classLink RL 13 "java/lang/UnsupportedOperationException" ∈ TG := tg (sg_5 _ (List.mem_of_getElem? (i := 44) (by decide +kernel))) (by decide +kernel)
theorem w_555 : Cond.castable "java/lang/UnsupportedOperationException" "java/lang/UnsupportedOperationException" ∈ NWL := List.mem_filter.mpr ⟨(sh_5 _ (List.mem_of_getElem? (i := 60) (by decide +kernel))), by decide +kernel⟩
theorem w_556 : Cond.methodLink RL 128 yX11_breakChip ∈ TG := tg (sg_7 _ (List.mem_of_getElem? (i := 204) (by decide +kernel))) (by decide +kernel)
theorem w_557 : Cond.code yX11_breakChip cX11_breakChip 2 (some .int) ∈ TG := tg (sg_7 _ (List.mem_of_getElem? (i := 207) (by decide +kernel))) (by decide +kernel)
theorem w_558 : Cond.instanceMethod yX11_breakChip ∈ TG := tg (sg_7 _ (List.mem_of_getElem? (i := 205) (by decide +kernel))) (by decide +kernel)
theorem w_559 : Cond.selects RX11 yX11_breakChip yX11_breakChip ∈ TG := tg (sg_7 _ (List.mem_of_getElem? (i := 206) (by decide +kernel))) (by decide +kernel)
theorem w_560 : Cond.methodLink RL 62 yX11_bridge ∈ TG := tg (sg_6 _ (List.mem_of_getElem? (i := 137) (by decide +kernel))) (by decide +kernel)
theorem w_561 : Cond.code yX11_bridge cX11_bridge 4 (some .int) ∈ TG := tg (sg_6 _ (List.mem_of_getElem? (i := 140) (by decide +kernel))) (by decide +kernel)
theorem w_562 : Cond.instanceMethod yX11_bridge ∈ TG := tg (sg_6 _ (List.mem_of_getElem? (i := 138) (by decide +kernel))) (by decide +kernel)
theorem w_563 : Cond.selects RX11 yX11_bridge yX11_bridge ∈ TG := tg (sg_6 _ (List.mem_of_getElem? (i := 139) (by decide +kernel))) (by decide +kernel)
theorem w_564 : Cond.methodLink RL 134 yX11_candidate ∈ TG := tg (sg_7 _ (List.mem_of_getElem? (i := 226) (by decide +kernel))) (by decide +kernel)
theorem w_565 : Cond.code yX11_candidate cX11_candidate 3 (some .int) ∈ TG := tg (sg_7 _ (List.mem_of_getElem? (i := 229) (by decide +kernel))) (by decide +kernel)
theorem w_566 : Cond.instanceMethod yX11_candidate ∈ TG := tg (sg_7 _ (List.mem_of_getElem? (i := 227) (by decide +kernel))) (by decide +kernel)
theorem w_567 : Cond.selects RX11 yX11_candidate yX11_candidate ∈ TG := tg (sg_7 _ (List.mem_of_getElem? (i := 228) (by decide +kernel))) (by decide +kernel)
theorem w_568 : Cond.classLink RL 86 "java/util/NoSuchElementException" ∈ TG := tg (sg_7 _ (List.mem_of_getElem? (i := 1) (by decide +kernel))) (by decide +kernel)
theorem w_569 : Cond.castable "java/util/NoSuchElementException" "java/util/NoSuchElementException" ∈ NWL := List.mem_filter.mpr ⟨(sh_7 _ (List.mem_of_getElem? (i := 23) (by decide +kernel))), by decide +kernel⟩
theorem w_570 : Cond.methodLink RL 17 yX11_cell ∈ TG := tg (sg_5 _ (List.mem_of_getElem? (i := 148) (by decide +kernel))) (by decide +kernel)
theorem w_571 : Cond.code yX11_cell cX11_cell 1 (some .int) ∈ TG := tg (sg_5 _ (List.mem_of_getElem? (i := 151) (by decide +kernel))) (by decide +kernel)
theorem w_572 : Cond.instanceMethod yX11_cell ∈ TG := tg (sg_5 _ (List.mem_of_getElem? (i := 149) (by decide +kernel))) (by decide +kernel)
theorem w_573 : Cond.selects RX11 yX11_cell yX11_cell ∈ TG := tg (sg_5 _ (List.mem_of_getElem? (i := 150) (by decide +kernel))) (by decide +kernel)
theorem w_574 : Cond.methodLink RL 116 yX11_chance ∈ TG := tg (sg_7 _ (List.mem_of_getElem? (i := 159) (by decide +kernel))) (by decide +kernel)
theorem w_575 : Cond.code yX11_chance cX11_chance 6 (some .int) ∈ TG := tg (sg_7 _ (List.mem_of_getElem? (i := 162) (by decide +kernel))) (by decide +kernel)
theorem w_576 : Cond.instanceMethod yX11_chance ∈ TG := tg (sg_7 _ (List.mem_of_getElem? (i := 160) (by decide +kernel))) (by decide +kernel)
theorem w_577 : Cond.selects RX11 yX11_chance yX11_chance ∈ TG := tg (sg_7 _ (List.mem_of_getElem? (i := 161) (by decide +kernel))) (by decide +kernel)
theorem w_578 : Cond.methodLink RL 36 yX11_close ∈ TG := tg (sg_6 _ (List.mem_of_getElem? (i := 9) (by decide +kernel))) (by decide +kernel)
theorem w_579 : Cond.code yX11_close cX11_close 1 (some .int) ∈ TG := tg (sg_6 _ (List.mem_of_getElem? (i := 12) (by decide +kernel))) (by decide +kernel)
theorem w_580 : Cond.instanceMethod yX11_close ∈ TG := tg (sg_6 _ (List.mem_of_getElem? (i := 10) (by decide +kernel))) (by decide +kernel)
theorem w_581 : Cond.selects RX11 yX11_close yX11_close ∈ TG := tg (sg_6 _ (List.mem_of_getElem? (i := 11) (by decide +kernel))) (by decide +kernel)
theorem w_582 : Cond.methodLink RL 198 yX11_core ∈ TG := tg (sg_9 _ (List.mem_of_getElem? (i := 2) (by decide +kernel))) (by decide +kernel)
theorem w_583 : Cond.code yX11_core cX11_core 4 (some .int) ∈ TG := tg (sg_9 _ (List.mem_of_getElem? (i := 5) (by decide +kernel))) (by decide +kernel)
theorem w_584 : Cond.instanceMethod yX11_core ∈ TG := tg (sg_9 _ (List.mem_of_getElem? (i := 3) (by decide +kernel))) (by decide +kernel)
theorem w_585 : Cond.selects RX11 yX11_core yX11_core ∈ TG := tg (sg_9 _ (List.mem_of_getElem? (i := 4) (by decide +kernel))) (by decide +kernel)
theorem w_586 : Cond.methodLink RL 77 yX11_coverage ∈ TG := tg (sg_6 _ (List.mem_of_getElem? (i := 210) (by decide +kernel))) (by decide +kernel)
theorem w_587 : Cond.code yX11_coverage cX11_coverage 3 (some .float) ∈ TG := tg (sg_6 _ (List.mem_of_getElem? (i := 213) (by decide +kernel))) (by decide +kernel)
theorem w_588 : Cond.instanceMethod yX11_coverage ∈ TG := tg (sg_6 _ (List.mem_of_getElem? (i := 211) (by decide +kernel))) (by decide +kernel)
theorem w_589 : Cond.selects RX11 yX11_coverage yX11_coverage ∈ TG := tg (sg_6 _ (List.mem_of_getElem? (i := 212) (by decide +kernel))) (by decide +kernel)
theorem w_590 : Cond.classLink RL 81 "java/lang/ArithmeticException" ∈ TG := tg (sg_6 _ (List.mem_of_getElem? (i := 196) (by decide +kernel))) (by decide +kernel)
theorem w_591 : Cond.castable "java/lang/ArithmeticException" "java/lang/ArithmeticException" ∈ NWL := List.mem_filter.mpr ⟨(sh_6 _ (List.mem_of_getElem? (i := 208) (by decide +kernel))), by decide +kernel⟩
theorem w_592 : Cond.methodLink RL 28 yX11_data ∈ TG := tg (sg_5 _ (List.mem_of_getElem? (i := 235) (by decide +kernel))) (by decide +kernel)
theorem w_593 : Cond.code yX11_data cX11_data 4 (some .int) ∈ TG := tg (sg_5 _ (List.mem_of_getElem? (i := 238) (by decide +kernel))) (by decide +kernel)
theorem w_594 : Cond.instanceMethod yX11_data ∈ TG := tg (sg_5 _ (List.mem_of_getElem? (i := 236) (by decide +kernel))) (by decide +kernel)
theorem w_595 : Cond.selects RX11 yX11_data yX11_data ∈ TG := tg (sg_5 _ (List.mem_of_getElem? (i := 237) (by decide +kernel))) (by decide +kernel)
theorem w_596 : Cond.methodLink RL 158 yX11_escapes ∈ TG := tg (sg_8 _ (List.mem_of_getElem? (i := 67) (by decide +kernel))) (by decide +kernel)
theorem w_597 : Cond.code yX11_escapes cX11_escapes 6 (some .int) ∈ TG := tg (sg_8 _ (List.mem_of_getElem? (i := 70) (by decide +kernel))) (by decide +kernel)
theorem w_598 : Cond.instanceMethod yX11_escapes ∈ TG := tg (sg_8 _ (List.mem_of_getElem? (i := 68) (by decide +kernel))) (by decide +kernel)
theorem w_599 : Cond.selects RX11 yX11_escapes yX11_escapes ∈ TG := tg (sg_8 _ (List.mem_of_getElem? (i := 69) (by decide +kernel))) (by decide +kernel)
theorem w_600 : Cond.methodLink RL 131 yX11_fails ∈ TG := tg (sg_7 _ (List.mem_of_getElem? (i := 215) (by decide +kernel))) (by decide +kernel)
theorem w_601 : Cond.code yX11_fails cX11_fails 2 (some .long) ∈ TG := tg (sg_7 _ (List.mem_of_getElem? (i := 218) (by decide +kernel))) (by decide +kernel)
theorem w_602 : Cond.instanceMethod yX11_fails ∈ TG := tg (sg_7 _ (List.mem_of_getElem? (i := 216) (by decide +kernel))) (by decide +kernel)
theorem w_603 : Cond.selects RX11 yX11_fails yX11_fails ∈ TG := tg (sg_7 _ (List.mem_of_getElem? (i := 217) (by decide +kernel))) (by decide +kernel)
theorem w_604 : Cond.methodLink RL 49 yX11_faulty ∈ TG := tg (sg_6 _ (List.mem_of_getElem? (i := 104) (by decide +kernel))) (by decide +kernel)
theorem w_605 : Cond.code yX11_faulty cX11_faulty 4 (some .int) ∈ TG := tg (sg_6 _ (List.mem_of_getElem? (i := 107) (by decide +kernel))) (by decide +kernel)
theorem w_606 : Cond.instanceMethod yX11_faulty ∈ TG := tg (sg_6 _ (List.mem_of_getElem? (i := 105) (by decide +kernel))) (by decide +kernel)
theorem w_607 : Cond.selects RX11 yX11_faulty yX11_faulty ∈ TG := tg (sg_6 _ (List.mem_of_getElem? (i := 106) (by decide +kernel))) (by decide +kernel)
theorem w_608 : Cond.methodLink RL 97 yX11_fill ∈ TG := tg (sg_7 _ (List.mem_of_getElem? (i := 83) (by decide +kernel))) (by decide +kernel)
theorem w_609 : Cond.code yX11_fill cX11_fill 3 (some .int) ∈ TG := tg (sg_7 _ (List.mem_of_getElem? (i := 86) (by decide +kernel))) (by decide +kernel)
theorem w_610 : Cond.instanceMethod yX11_fill ∈ TG := tg (sg_7 _ (List.mem_of_getElem? (i := 84) (by decide +kernel))) (by decide +kernel)
theorem w_611 : Cond.selects RX11 yX11_fill yX11_fill ∈ TG := tg (sg_7 _ (List.mem_of_getElem? (i := 85) (by decide +kernel))) (by decide +kernel)
theorem w_612 : Cond.methodLink RL 69 yX11_finds ∈ TG := tg (sg_6 _ (List.mem_of_getElem? (i := 163) (by decide +kernel))) (by decide +kernel)
theorem w_613 : Cond.code yX11_finds cX11_finds 4 (some .boolean) ∈ TG := tg (sg_6 _ (List.mem_of_getElem? (i := 166) (by decide +kernel))) (by decide +kernel)
theorem w_614 : Cond.instanceMethod yX11_finds ∈ TG := tg (sg_6 _ (List.mem_of_getElem? (i := 164) (by decide +kernel))) (by decide +kernel)
theorem w_615 : Cond.selects RX11 yX11_finds yX11_finds ∈ TG := tg (sg_6 _ (List.mem_of_getElem? (i := 165) (by decide +kernel))) (by decide +kernel)
theorem w_616 : Cond.methodLink RL 73 yX11_foundBy ∈ TG := tg (sg_6 _ (List.mem_of_getElem? (i := 189) (by decide +kernel))) (by decide +kernel)
theorem w_617 : Cond.code yX11_foundBy cX11_foundBy 2 (some .long) ∈ TG := tg (sg_6 _ (List.mem_of_getElem? (i := 192) (by decide +kernel))) (by decide +kernel)
theorem w_618 : Cond.instanceMethod yX11_foundBy ∈ TG := tg (sg_6 _ (List.mem_of_getElem? (i := 190) (by decide +kernel))) (by decide +kernel)
theorem w_619 : Cond.selects RX11 yX11_foundBy yX11_foundBy ∈ TG := tg (sg_6 _ (List.mem_of_getElem? (i := 191) (by decide +kernel))) (by decide +kernel)
theorem dL_alike_0 : decode cL_alike 0 = .ok (.aload_n 2, 1) := by decide +kernel
theorem dL_alike_1 : decode cL_alike 1 = .ok (.iconst 0, 1) := by decide +kernel
theorem dL_alike_2 : decode cL_alike 2 = .ok (.aload_n 0, 1) := by decide +kernel
theorem dL_alike_3 : decode cL_alike 3 = .ok (.iload_n 1, 1) := by decide +kernel
theorem dL_alike_4 : decode cL_alike 4 = .ok (.invokevirtual 59, 3) := by decide +kernel
theorem dL_alike_7 : decode cL_alike 7 = .ok (.i2l, 1) := by decide +kernel
theorem dL_alike_8 : decode cL_alike 8 = .ok (.lastore, 1) := by decide +kernel
theorem dL_alike_9 : decode cL_alike 9 = .ok (.goto 6, 3) := by decide +kernel
theorem dL_alike_12 : decode cL_alike 12 = .ok (.astore_n 3, 1) := by decide +kernel
theorem dL_alike_13 : decode cL_alike 13 = .ok (.iconst 1, 1) := by decide +kernel
theorem dL_alike_14 : decode cL_alike 14 = .ok (.ireturn, 1) := by decide +kernel
theorem dL_alike_15 : decode cL_alike 15 = .ok (.iconst 0, 1) := by decide +kernel
theorem dL_alike_16 : decode cL_alike 16 = .ok (.ireturn, 1) := by decide +kernel
theorem dL_badWires_0 : decode cL_badWires 0 = .ok (.aload_n 2, 1) := by decide +kernel
theorem dL_badWires_1 : decode cL_badWires 1 = .ok (.iconst 0, 1) := by decide +kernel
theorem dL_badWires_2 : decode cL_badWires 2 = .ok (.aload_n 0, 1) := by decide +kernel
theorem dL_badWires_3 : decode cL_badWires 3 = .ok (.iload_n 1, 1) := by decide +kernel
theorem dL_badWires_4 : decode cL_badWires 4 = .ok (.invokevirtual 192, 3) := by decide +kernel
theorem dL_badWires_7 : decode cL_badWires 7 = .ok (.i2l, 1) := by decide +kernel
theorem dL_badWires_8 : decode cL_badWires 8 = .ok (.lastore, 1) := by decide +kernel
theorem dL_badWires_9 : decode cL_badWires 9 = .ok (.goto 6, 3) := by decide +kernel
theorem dL_badWires_12 : decode cL_badWires 12 = .ok (.astore_n 3, 1) := by decide +kernel
theorem dL_badWires_13 : decode cL_badWires 13 = .ok (.iconst 1, 1) := by decide +kernel
theorem dL_badWires_14 : decode cL_badWires 14 = .ok (.ireturn, 1) := by decide +kernel
theorem dL_badWires_15 : decode cL_badWires 15 = .ok (.iconst 0, 1) := by decide +kernel
theorem dL_badWires_16 : decode cL_badWires 16 = .ok (.ireturn, 1) := by decide +kernel
theorem dL_begins_0 : decode cL_begins 0 = .ok (.aload 4, 2) := by decide +kernel
theorem dL_begins_2 : decode cL_begins 2 = .ok (.iconst 0, 1) := by decide +kernel
theorem dL_begins_3 : decode cL_begins 3 = .ok (.aload_n 0, 1) := by decide +kernel
theorem dL_begins_4 : decode cL_begins 4 = .ok (.iload_n 1, 1) := by decide +kernel
theorem dL_begins_5 : decode cL_begins 5 = .ok (.iload_n 2, 1) := by decide +kernel
theorem dL_begins_6 : decode cL_begins 6 = .ok (.iload_n 3, 1) := by decide +kernel
theorem dL_begins_7 : decode cL_begins 7 = .ok (.invokevirtual 204, 3) := by decide +kernel
theorem dL_begins_10 : decode cL_begins 10 = .ok (.i2l, 1) := by decide +kernel
theorem dL_begins_11 : decode cL_begins 11 = .ok (.lastore, 1) := by decide +kernel
theorem dL_begins_12 : decode cL_begins 12 = .ok (.goto 11, 3) := by decide +kernel
theorem dL_begins_15 : decode cL_begins 15 = .ok (.astore 5, 2) := by decide +kernel
theorem dL_begins_17 : decode cL_begins 17 = .ok (.iconst 1, 1) := by decide +kernel
theorem dL_begins_18 : decode cL_begins 18 = .ok (.ireturn, 1) := by decide +kernel
theorem dL_begins_19 : decode cL_begins 19 = .ok (.astore 5, 2) := by decide +kernel
theorem dL_begins_21 : decode cL_begins 21 = .ok (.iconst 2, 1) := by decide +kernel
theorem dL_begins_22 : decode cL_begins 22 = .ok (.ireturn, 1) := by decide +kernel
theorem dL_begins_23 : decode cL_begins 23 = .ok (.iconst 0, 1) := by decide +kernel
theorem dL_begins_24 : decode cL_begins 24 = .ok (.ireturn, 1) := by decide +kernel
theorem dL_board_0 : decode cL_board 0 = .ok (.aload_n 3, 1) := by decide +kernel
theorem dL_board_1 : decode cL_board 1 = .ok (.iconst 0, 1) := by decide +kernel
theorem dL_board_2 : decode cL_board 2 = .ok (.aload_n 0, 1) := by decide +kernel
theorem dL_board_3 : decode cL_board 3 = .ok (.iload_n 1, 1) := by decide +kernel
theorem dL_board_4 : decode cL_board 4 = .ok (.iload_n 2, 1) := by decide +kernel
theorem dL_board_5 : decode cL_board 5 = .ok (.invokevirtual 179, 3) := by decide +kernel
theorem dL_board_8 : decode cL_board 8 = .ok (.i2l, 1) := by decide +kernel
theorem dL_board_9 : decode cL_board 9 = .ok (.lastore, 1) := by decide +kernel
theorem dL_board_10 : decode cL_board 10 = .ok (.goto 7, 3) := by decide +kernel
theorem dL_board_13 : decode cL_board 13 = .ok (.astore 4, 2) := by decide +kernel
theorem dL_board_15 : decode cL_board 15 = .ok (.iconst 1, 1) := by decide +kernel
theorem dL_board_16 : decode cL_board 16 = .ok (.ireturn, 1) := by decide +kernel
theorem dL_board_17 : decode cL_board 17 = .ok (.iconst 0, 1) := by decide +kernel
theorem dL_board_18 : decode cL_board 18 = .ok (.ireturn, 1) := by decide +kernel
theorem dL_breakChain_0 : decode cL_breakChain 0 = .ok (.aload_n 3, 1) := by decide +kernel
theorem dL_breakChain_1 : decode cL_breakChain 1 = .ok (.iconst 0, 1) := by decide +kernel
theorem dL_breakChain_2 : decode cL_breakChain 2 = .ok (.aload_n 0, 1) := by decide +kernel
theorem dL_breakChain_3 : decode cL_breakChain 3 = .ok (.iload_n 1, 1) := by decide +kernel
theorem dL_breakChain_4 : decode cL_breakChain 4 = .ok (.iload_n 2, 1) := by decide +kernel
theorem dL_breakChain_5 : decode cL_breakChain 5 = .ok (.invokevirtual 146, 3) := by decide +kernel
theorem dL_breakChain_8 : decode cL_breakChain 8 = .ok (.i2l, 1) := by decide +kernel
theorem dL_breakChain_9 : decode cL_breakChain 9 = .ok (.lastore, 1) := by decide +kernel
theorem dL_breakChain_10 : decode cL_breakChain 10 = .ok (.goto 11, 3) := by decide +kernel
theorem dL_breakChain_13 : decode cL_breakChain 13 = .ok (.astore 4, 2) := by decide +kernel
theorem dL_breakChain_15 : decode cL_breakChain 15 = .ok (.iconst 1, 1) := by decide +kernel
theorem dL_breakChain_16 : decode cL_breakChain 16 = .ok (.ireturn, 1) := by decide +kernel
theorem dL_breakChain_17 : decode cL_breakChain 17 = .ok (.astore 4, 2) := by decide +kernel
theorem dL_breakChain_19 : decode cL_breakChain 19 = .ok (.iconst 2, 1) := by decide +kernel
theorem dL_breakChain_20 : decode cL_breakChain 20 = .ok (.ireturn, 1) := by decide +kernel
theorem dL_breakChain_21 : decode cL_breakChain 21 = .ok (.iconst 0, 1) := by decide +kernel
theorem dL_breakChain_22 : decode cL_breakChain 22 = .ok (.ireturn, 1) := by decide +kernel
theorem dL_breakChip_0 : decode cL_breakChip 0 = .ok (.aload_n 2, 1) := by decide +kernel
theorem dL_breakChip_1 : decode cL_breakChip 1 = .ok (.iconst 0, 1) := by decide +kernel
theorem dL_breakChip_2 : decode cL_breakChip 2 = .ok (.aload_n 0, 1) := by decide +kernel
theorem dL_breakChip_3 : decode cL_breakChip 3 = .ok (.iload_n 1, 1) := by decide +kernel
theorem dL_breakChip_4 : decode cL_breakChip 4 = .ok (.invokevirtual 128, 3) := by decide +kernel
theorem dL_breakChip_7 : decode cL_breakChip 7 = .ok (.i2l, 1) := by decide +kernel
theorem dL_breakChip_8 : decode cL_breakChip 8 = .ok (.lastore, 1) := by decide +kernel
theorem dL_breakChip_9 : decode cL_breakChip 9 = .ok (.goto 12, 3) := by decide +kernel
theorem dL_breakChip_12 : decode cL_breakChip 12 = .ok (.astore_n 3, 1) := by decide +kernel
theorem dL_breakChip_13 : decode cL_breakChip 13 = .ok (.iconst 1, 1) := by decide +kernel
theorem dL_breakChip_14 : decode cL_breakChip 14 = .ok (.ireturn, 1) := by decide +kernel
theorem dL_breakChip_15 : decode cL_breakChip 15 = .ok (.astore_n 3, 1) := by decide +kernel
theorem dL_breakChip_16 : decode cL_breakChip 16 = .ok (.iconst 2, 1) := by decide +kernel
theorem dL_breakChip_17 : decode cL_breakChip 17 = .ok (.ireturn, 1) := by decide +kernel
theorem dL_breakChip_18 : decode cL_breakChip 18 = .ok (.astore_n 3, 1) := by decide +kernel
theorem dL_breakChip_19 : decode cL_breakChip 19 = .ok (.iconst 3, 1) := by decide +kernel
theorem dL_breakChip_20 : decode cL_breakChip 20 = .ok (.ireturn, 1) := by decide +kernel
theorem dL_breakChip_21 : decode cL_breakChip 21 = .ok (.iconst 0, 1) := by decide +kernel
theorem dL_breakChip_22 : decode cL_breakChip 22 = .ok (.ireturn, 1) := by decide +kernel
theorem dL_bridge_0 : decode cL_bridge 0 = .ok (.aload 4, 2) := by decide +kernel
theorem dL_bridge_2 : decode cL_bridge 2 = .ok (.iconst 0, 1) := by decide +kernel
theorem dL_bridge_3 : decode cL_bridge 3 = .ok (.aload_n 0, 1) := by decide +kernel
theorem dL_bridge_4 : decode cL_bridge 4 = .ok (.iload_n 1, 1) := by decide +kernel
theorem dL_bridge_5 : decode cL_bridge 5 = .ok (.iload_n 2, 1) := by decide +kernel
theorem dL_bridge_6 : decode cL_bridge 6 = .ok (.iload_n 3, 1) := by decide +kernel
theorem dL_bridge_7 : decode cL_bridge 7 = .ok (.invokevirtual 62, 3) := by decide +kernel
theorem dL_bridge_10 : decode cL_bridge 10 = .ok (.i2l, 1) := by decide +kernel
theorem dL_bridge_11 : decode cL_bridge 11 = .ok (.lastore, 1) := by decide +kernel
theorem dL_bridge_12 : decode cL_bridge 12 = .ok (.goto 19, 3) := by decide +kernel
theorem dL_bridge_15 : decode cL_bridge 15 = .ok (.astore 5, 2) := by decide +kernel
theorem dL_bridge_17 : decode cL_bridge 17 = .ok (.iconst 1, 1) := by decide +kernel
theorem dL_bridge_18 : decode cL_bridge 18 = .ok (.ireturn, 1) := by decide +kernel
theorem dL_bridge_19 : decode cL_bridge 19 = .ok (.astore 5, 2) := by decide +kernel
theorem dL_bridge_21 : decode cL_bridge 21 = .ok (.iconst 2, 1) := by decide +kernel
theorem dL_bridge_22 : decode cL_bridge 22 = .ok (.ireturn, 1) := by decide +kernel
theorem dL_bridge_23 : decode cL_bridge 23 = .ok (.astore 5, 2) := by decide +kernel
theorem dL_bridge_25 : decode cL_bridge 25 = .ok (.iconst 3, 1) := by decide +kernel
theorem dL_bridge_26 : decode cL_bridge 26 = .ok (.ireturn, 1) := by decide +kernel
theorem dL_bridge_27 : decode cL_bridge 27 = .ok (.astore 5, 2) := by decide +kernel
theorem dL_bridge_29 : decode cL_bridge 29 = .ok (.iconst 4, 1) := by decide +kernel
theorem dL_bridge_30 : decode cL_bridge 30 = .ok (.ireturn, 1) := by decide +kernel
theorem dL_bridge_31 : decode cL_bridge 31 = .ok (.iconst 0, 1) := by decide +kernel
theorem dL_bridge_32 : decode cL_bridge 32 = .ok (.ireturn, 1) := by decide +kernel
theorem dL_candidate_0 : decode cL_candidate 0 = .ok (.aload_n 2, 1) := by decide +kernel
theorem dL_candidate_1 : decode cL_candidate 1 = .ok (.iconst 0, 1) := by decide +kernel
theorem dL_candidate_2 : decode cL_candidate 2 = .ok (.aload_n 0, 1) := by decide +kernel
theorem dL_candidate_3 : decode cL_candidate 3 = .ok (.iload_n 1, 1) := by decide +kernel
theorem dL_candidate_4 : decode cL_candidate 4 = .ok (.invokevirtual 134, 3) := by decide +kernel
theorem dL_candidate_7 : decode cL_candidate 7 = .ok (.i2l, 1) := by decide +kernel
theorem dL_candidate_8 : decode cL_candidate 8 = .ok (.lastore, 1) := by decide +kernel
theorem dL_candidate_9 : decode cL_candidate 9 = .ok (.goto 6, 3) := by decide +kernel
theorem dL_candidate_12 : decode cL_candidate 12 = .ok (.astore_n 3, 1) := by decide +kernel
theorem dL_candidate_13 : decode cL_candidate 13 = .ok (.iconst 1, 1) := by decide +kernel
theorem dL_candidate_14 : decode cL_candidate 14 = .ok (.ireturn, 1) := by decide +kernel
theorem dL_candidate_15 : decode cL_candidate 15 = .ok (.iconst 0, 1) := by decide +kernel
theorem dL_candidate_16 : decode cL_candidate 16 = .ok (.ireturn, 1) := by decide +kernel
theorem dL_cell_0 : decode cL_cell 0 = .ok (.aload_n 1, 1) := by decide +kernel
theorem dL_cell_1 : decode cL_cell 1 = .ok (.iconst 0, 1) := by decide +kernel
theorem dL_cell_2 : decode cL_cell 2 = .ok (.aload_n 0, 1) := by decide +kernel
theorem dL_cell_3 : decode cL_cell 3 = .ok (.invokevirtual 17, 3) := by decide +kernel
theorem dL_cell_6 : decode cL_cell 6 = .ok (.i2l, 1) := by decide +kernel
theorem dL_cell_7 : decode cL_cell 7 = .ok (.lastore, 1) := by decide +kernel
theorem dL_cell_8 : decode cL_cell 8 = .ok (.goto 9, 3) := by decide +kernel
theorem dL_cell_11 : decode cL_cell 11 = .ok (.astore_n 2, 1) := by decide +kernel
theorem dL_cell_12 : decode cL_cell 12 = .ok (.iconst 1, 1) := by decide +kernel
theorem dL_cell_13 : decode cL_cell 13 = .ok (.ireturn, 1) := by decide +kernel
theorem dL_cell_14 : decode cL_cell 14 = .ok (.astore_n 2, 1) := by decide +kernel
theorem dL_cell_15 : decode cL_cell 15 = .ok (.iconst 2, 1) := by decide +kernel
theorem dL_cell_16 : decode cL_cell 16 = .ok (.ireturn, 1) := by decide +kernel
theorem dL_cell_17 : decode cL_cell 17 = .ok (.iconst 0, 1) := by decide +kernel
theorem dL_cell_18 : decode cL_cell 18 = .ok (.ireturn, 1) := by decide +kernel
theorem dL_chance_0 : decode cL_chance 0 = .ok (.aload_n 3, 1) := by decide +kernel
theorem dL_chance_1 : decode cL_chance 1 = .ok (.iconst 0, 1) := by decide +kernel
theorem dL_chance_2 : decode cL_chance 2 = .ok (.aload_n 0, 1) := by decide +kernel
theorem dL_chance_3 : decode cL_chance 3 = .ok (.iload_n 1, 1) := by decide +kernel
theorem dL_chance_4 : decode cL_chance 4 = .ok (.iload_n 2, 1) := by decide +kernel
theorem dL_chance_5 : decode cL_chance 5 = .ok (.invokevirtual 116, 3) := by decide +kernel
theorem dL_chance_8 : decode cL_chance 8 = .ok (.i2l, 1) := by decide +kernel
theorem dL_chance_9 : decode cL_chance 9 = .ok (.lastore, 1) := by decide +kernel
theorem dL_chance_10 : decode cL_chance 10 = .ok (.goto 11, 3) := by decide +kernel
theorem dL_chance_13 : decode cL_chance 13 = .ok (.astore 4, 2) := by decide +kernel
theorem dL_chance_15 : decode cL_chance 15 = .ok (.iconst 1, 1) := by decide +kernel
theorem dL_chance_16 : decode cL_chance 16 = .ok (.ireturn, 1) := by decide +kernel
theorem dL_chance_17 : decode cL_chance 17 = .ok (.astore 4, 2) := by decide +kernel
theorem dL_chance_19 : decode cL_chance 19 = .ok (.iconst 2, 1) := by decide +kernel
theorem dL_chance_20 : decode cL_chance 20 = .ok (.ireturn, 1) := by decide +kernel
theorem dL_chance_21 : decode cL_chance 21 = .ok (.iconst 0, 1) := by decide +kernel
theorem dL_chance_22 : decode cL_chance 22 = .ok (.ireturn, 1) := by decide +kernel
theorem dL_close_0 : decode cL_close 0 = .ok (.aload_n 1, 1) := by decide +kernel
theorem dL_close_1 : decode cL_close 1 = .ok (.iconst 0, 1) := by decide +kernel
theorem dL_close_2 : decode cL_close 2 = .ok (.aload_n 0, 1) := by decide +kernel
theorem dL_close_3 : decode cL_close 3 = .ok (.invokevirtual 36, 3) := by decide +kernel
theorem dL_close_6 : decode cL_close 6 = .ok (.i2l, 1) := by decide +kernel
theorem dL_close_7 : decode cL_close 7 = .ok (.lastore, 1) := by decide +kernel
theorem dL_close_8 : decode cL_close 8 = .ok (.goto 6, 3) := by decide +kernel
theorem dL_close_11 : decode cL_close 11 = .ok (.astore_n 2, 1) := by decide +kernel
theorem dL_close_12 : decode cL_close 12 = .ok (.iconst 1, 1) := by decide +kernel
theorem dL_close_13 : decode cL_close 13 = .ok (.ireturn, 1) := by decide +kernel
theorem dL_close_14 : decode cL_close 14 = .ok (.iconst 0, 1) := by decide +kernel
theorem dL_close_15 : decode cL_close 15 = .ok (.ireturn, 1) := by decide +kernel
theorem dL_core_0 : decode cL_core 0 = .ok (.aload 4, 2) := by decide +kernel
theorem dL_core_2 : decode cL_core 2 = .ok (.iconst 0, 1) := by decide +kernel
theorem dL_core_3 : decode cL_core 3 = .ok (.aload_n 0, 1) := by decide +kernel
theorem dL_core_4 : decode cL_core 4 = .ok (.iload_n 1, 1) := by decide +kernel
theorem dL_core_5 : decode cL_core 5 = .ok (.iload_n 2, 1) := by decide +kernel
theorem dL_core_6 : decode cL_core 6 = .ok (.iload_n 3, 1) := by decide +kernel
theorem dL_core_7 : decode cL_core 7 = .ok (.invokevirtual 198, 3) := by decide +kernel
theorem dL_core_10 : decode cL_core 10 = .ok (.i2l, 1) := by decide +kernel
theorem dL_core_11 : decode cL_core 11 = .ok (.lastore, 1) := by decide +kernel
theorem dL_core_12 : decode cL_core 12 = .ok (.goto 11, 3) := by decide +kernel
theorem dL_core_15 : decode cL_core 15 = .ok (.astore 5, 2) := by decide +kernel
theorem dL_core_17 : decode cL_core 17 = .ok (.iconst 1, 1) := by decide +kernel
theorem dL_core_18 : decode cL_core 18 = .ok (.ireturn, 1) := by decide +kernel
theorem dL_core_19 : decode cL_core 19 = .ok (.astore 5, 2) := by decide +kernel
theorem dL_core_21 : decode cL_core 21 = .ok (.iconst 2, 1) := by decide +kernel
theorem dL_core_22 : decode cL_core 22 = .ok (.ireturn, 1) := by decide +kernel
theorem dL_core_23 : decode cL_core 23 = .ok (.iconst 0, 1) := by decide +kernel
theorem dL_core_24 : decode cL_core 24 = .ok (.ireturn, 1) := by decide +kernel
theorem dL_coverage_0 : decode cL_coverage 0 = .ok (.aload_n 2, 1) := by decide +kernel
theorem dL_coverage_1 : decode cL_coverage 1 = .ok (.iconst 0, 1) := by decide +kernel
theorem dL_coverage_2 : decode cL_coverage 2 = .ok (.aload_n 0, 1) := by decide +kernel
theorem dL_coverage_3 : decode cL_coverage 3 = .ok (.iload_n 1, 1) := by decide +kernel
theorem dL_coverage_4 : decode cL_coverage 4 = .ok (.invokevirtual 77, 3) := by decide +kernel
theorem dL_coverage_7 : decode cL_coverage 7 = .ok (.f2d, 1) := by decide +kernel
theorem dL_coverage_8 : decode cL_coverage 8 = .ok (.dastore, 1) := by decide +kernel
theorem dL_coverage_9 : decode cL_coverage 9 = .ok (.goto 9, 3) := by decide +kernel
theorem dL_coverage_12 : decode cL_coverage 12 = .ok (.astore_n 3, 1) := by decide +kernel
theorem dL_coverage_13 : decode cL_coverage 13 = .ok (.iconst 1, 1) := by decide +kernel
theorem dL_coverage_14 : decode cL_coverage 14 = .ok (.ireturn, 1) := by decide +kernel
theorem dL_coverage_15 : decode cL_coverage 15 = .ok (.astore_n 3, 1) := by decide +kernel
theorem dL_coverage_16 : decode cL_coverage 16 = .ok (.iconst 2, 1) := by decide +kernel
theorem dL_coverage_17 : decode cL_coverage 17 = .ok (.ireturn, 1) := by decide +kernel
theorem dL_coverage_18 : decode cL_coverage 18 = .ok (.iconst 0, 1) := by decide +kernel
theorem dL_coverage_19 : decode cL_coverage 19 = .ok (.ireturn, 1) := by decide +kernel
theorem dL_data_0 : decode cL_data 0 = .ok (.aload_n 3, 1) := by decide +kernel
theorem dL_data_1 : decode cL_data 1 = .ok (.iconst 0, 1) := by decide +kernel
theorem dL_data_2 : decode cL_data 2 = .ok (.aload_n 0, 1) := by decide +kernel
theorem dL_data_3 : decode cL_data 3 = .ok (.iload_n 1, 1) := by decide +kernel
theorem dL_data_4 : decode cL_data 4 = .ok (.iload_n 2, 1) := by decide +kernel
theorem dL_data_5 : decode cL_data 5 = .ok (.invokevirtual 28, 3) := by decide +kernel
theorem dL_data_8 : decode cL_data 8 = .ok (.i2l, 1) := by decide +kernel
theorem dL_data_9 : decode cL_data 9 = .ok (.lastore, 1) := by decide +kernel
theorem dL_data_10 : decode cL_data 10 = .ok (.goto 11, 3) := by decide +kernel
theorem dL_data_13 : decode cL_data 13 = .ok (.astore 4, 2) := by decide +kernel
theorem dL_data_15 : decode cL_data 15 = .ok (.iconst 1, 1) := by decide +kernel
theorem dL_data_16 : decode cL_data 16 = .ok (.ireturn, 1) := by decide +kernel
theorem dL_data_17 : decode cL_data 17 = .ok (.astore 4, 2) := by decide +kernel
theorem dL_data_19 : decode cL_data 19 = .ok (.iconst 2, 1) := by decide +kernel
theorem dL_data_20 : decode cL_data 20 = .ok (.ireturn, 1) := by decide +kernel
theorem dL_data_21 : decode cL_data 21 = .ok (.iconst 0, 1) := by decide +kernel
theorem dL_data_22 : decode cL_data 22 = .ok (.ireturn, 1) := by decide +kernel
theorem dL_escapes_0 : decode cL_escapes 0 = .ok (.aload_n 2, 1) := by decide +kernel
theorem dL_escapes_1 : decode cL_escapes 1 = .ok (.iconst 0, 1) := by decide +kernel
theorem dL_escapes_2 : decode cL_escapes 2 = .ok (.aload_n 0, 1) := by decide +kernel
theorem dL_escapes_3 : decode cL_escapes 3 = .ok (.iload_n 1, 1) := by decide +kernel
theorem dL_escapes_4 : decode cL_escapes 4 = .ok (.invokevirtual 158, 3) := by decide +kernel
theorem dL_escapes_7 : decode cL_escapes 7 = .ok (.i2l, 1) := by decide +kernel
theorem dL_escapes_8 : decode cL_escapes 8 = .ok (.lastore, 1) := by decide +kernel
theorem dL_escapes_9 : decode cL_escapes 9 = .ok (.goto 6, 3) := by decide +kernel
theorem dL_escapes_12 : decode cL_escapes 12 = .ok (.astore_n 3, 1) := by decide +kernel
theorem dL_escapes_13 : decode cL_escapes 13 = .ok (.iconst 1, 1) := by decide +kernel
theorem dL_escapes_14 : decode cL_escapes 14 = .ok (.ireturn, 1) := by decide +kernel
theorem dL_escapes_15 : decode cL_escapes 15 = .ok (.iconst 0, 1) := by decide +kernel
theorem dL_escapes_16 : decode cL_escapes 16 = .ok (.ireturn, 1) := by decide +kernel
theorem dL_fails_0 : decode cL_fails 0 = .ok (.aload_n 2, 1) := by decide +kernel
theorem dL_fails_1 : decode cL_fails 1 = .ok (.iconst 0, 1) := by decide +kernel
theorem dL_fails_2 : decode cL_fails 2 = .ok (.aload_n 0, 1) := by decide +kernel
theorem dL_fails_3 : decode cL_fails 3 = .ok (.iload_n 1, 1) := by decide +kernel
theorem dL_fails_4 : decode cL_fails 4 = .ok (.invokevirtual 131, 3) := by decide +kernel
theorem dL_fails_7 : decode cL_fails 7 = .ok (.lastore, 1) := by decide +kernel
theorem dL_fails_8 : decode cL_fails 8 = .ok (.goto 6, 3) := by decide +kernel
theorem dL_fails_11 : decode cL_fails 11 = .ok (.astore_n 3, 1) := by decide +kernel
theorem dL_fails_12 : decode cL_fails 12 = .ok (.iconst 1, 1) := by decide +kernel
theorem dL_fails_13 : decode cL_fails 13 = .ok (.ireturn, 1) := by decide +kernel
theorem dL_fails_14 : decode cL_fails 14 = .ok (.iconst 0, 1) := by decide +kernel
theorem dL_fails_15 : decode cL_fails 15 = .ok (.ireturn, 1) := by decide +kernel
theorem dL_faulty_0 : decode cL_faulty 0 = .ok (.aload 4, 2) := by decide +kernel
theorem dL_faulty_2 : decode cL_faulty 2 = .ok (.iconst 0, 1) := by decide +kernel
theorem dL_faulty_3 : decode cL_faulty 3 = .ok (.aload_n 0, 1) := by decide +kernel
theorem dL_faulty_4 : decode cL_faulty 4 = .ok (.iload_n 1, 1) := by decide +kernel
theorem dL_faulty_5 : decode cL_faulty 5 = .ok (.iload_n 2, 1) := by decide +kernel
theorem dL_faulty_6 : decode cL_faulty 6 = .ok (.iload_n 3, 1) := by decide +kernel
theorem dL_faulty_7 : decode cL_faulty 7 = .ok (.invokevirtual 49, 3) := by decide +kernel
theorem dL_faulty_10 : decode cL_faulty 10 = .ok (.i2l, 1) := by decide +kernel
theorem dL_faulty_11 : decode cL_faulty 11 = .ok (.lastore, 1) := by decide +kernel
theorem dL_faulty_12 : decode cL_faulty 12 = .ok (.goto 7, 3) := by decide +kernel
theorem dL_faulty_15 : decode cL_faulty 15 = .ok (.astore 5, 2) := by decide +kernel
theorem dL_faulty_17 : decode cL_faulty 17 = .ok (.iconst 1, 1) := by decide +kernel
theorem dL_faulty_18 : decode cL_faulty 18 = .ok (.ireturn, 1) := by decide +kernel
theorem dL_faulty_19 : decode cL_faulty 19 = .ok (.iconst 0, 1) := by decide +kernel
theorem dL_faulty_20 : decode cL_faulty 20 = .ok (.ireturn, 1) := by decide +kernel
theorem dL_fill_0 : decode cL_fill 0 = .ok (.aload_n 3, 1) := by decide +kernel
theorem dL_fill_1 : decode cL_fill 1 = .ok (.iconst 0, 1) := by decide +kernel
theorem dL_fill_2 : decode cL_fill 2 = .ok (.aload_n 0, 1) := by decide +kernel
theorem dL_fill_3 : decode cL_fill 3 = .ok (.iload_n 1, 1) := by decide +kernel
theorem dL_fill_4 : decode cL_fill 4 = .ok (.iload_n 2, 1) := by decide +kernel
theorem dL_fill_5 : decode cL_fill 5 = .ok (.invokevirtual 97, 3) := by decide +kernel
theorem dL_fill_8 : decode cL_fill 8 = .ok (.i2l, 1) := by decide +kernel
theorem dL_fill_9 : decode cL_fill 9 = .ok (.lastore, 1) := by decide +kernel
theorem dL_fill_10 : decode cL_fill 10 = .ok (.goto 11, 3) := by decide +kernel
theorem dL_fill_13 : decode cL_fill 13 = .ok (.astore 4, 2) := by decide +kernel
theorem dL_fill_15 : decode cL_fill 15 = .ok (.iconst 1, 1) := by decide +kernel
theorem dL_fill_16 : decode cL_fill 16 = .ok (.ireturn, 1) := by decide +kernel
theorem dL_fill_17 : decode cL_fill 17 = .ok (.astore 4, 2) := by decide +kernel
theorem dL_fill_19 : decode cL_fill 19 = .ok (.iconst 2, 1) := by decide +kernel
theorem dL_fill_20 : decode cL_fill 20 = .ok (.ireturn, 1) := by decide +kernel
theorem dL_fill_21 : decode cL_fill 21 = .ok (.iconst 0, 1) := by decide +kernel
theorem dL_fill_22 : decode cL_fill 22 = .ok (.ireturn, 1) := by decide +kernel
theorem dL_finds_0 : decode cL_finds 0 = .ok (.aload 4, 2) := by decide +kernel
theorem dL_finds_2 : decode cL_finds 2 = .ok (.iconst 0, 1) := by decide +kernel
theorem dL_finds_3 : decode cL_finds 3 = .ok (.aload_n 0, 1) := by decide +kernel
theorem dL_finds_4 : decode cL_finds 4 = .ok (.iload_n 1, 1) := by decide +kernel
theorem dL_finds_5 : decode cL_finds 5 = .ok (.iload_n 2, 1) := by decide +kernel
theorem dL_finds_6 : decode cL_finds 6 = .ok (.iload_n 3, 1) := by decide +kernel
theorem dL_finds_7 : decode cL_finds 7 = .ok (.invokevirtual 69, 3) := by decide +kernel
theorem dL_finds_10 : decode cL_finds 10 = .ok (.ifCond .eq 7, 3) := by decide +kernel
theorem dL_finds_13 : decode cL_finds 13 = .ok (.lconst 1, 1) := by decide +kernel
theorem dL_finds_14 : decode cL_finds 14 = .ok (.goto 4, 3) := by decide +kernel
theorem dL_finds_17 : decode cL_finds 17 = .ok (.lconst 0, 1) := by decide +kernel
theorem dL_finds_18 : decode cL_finds 18 = .ok (.lastore, 1) := by decide +kernel
theorem dL_finds_19 : decode cL_finds 19 = .ok (.goto 11, 3) := by decide +kernel
theorem dL_finds_22 : decode cL_finds 22 = .ok (.astore 5, 2) := by decide +kernel
theorem dL_finds_24 : decode cL_finds 24 = .ok (.iconst 1, 1) := by decide +kernel
theorem dL_finds_25 : decode cL_finds 25 = .ok (.ireturn, 1) := by decide +kernel
theorem dL_finds_26 : decode cL_finds 26 = .ok (.astore 5, 2) := by decide +kernel
theorem dL_finds_28 : decode cL_finds 28 = .ok (.iconst 2, 1) := by decide +kernel
theorem dL_finds_29 : decode cL_finds 29 = .ok (.ireturn, 1) := by decide +kernel
theorem dL_finds_30 : decode cL_finds 30 = .ok (.iconst 0, 1) := by decide +kernel
theorem dL_finds_31 : decode cL_finds 31 = .ok (.ireturn, 1) := by decide +kernel
theorem dL_foundBy_0 : decode cL_foundBy 0 = .ok (.aload_n 2, 1) := by decide +kernel
theorem dL_foundBy_1 : decode cL_foundBy 1 = .ok (.iconst 0, 1) := by decide +kernel
theorem dL_foundBy_2 : decode cL_foundBy 2 = .ok (.aload_n 0, 1) := by decide +kernel
theorem dL_foundBy_3 : decode cL_foundBy 3 = .ok (.iload_n 1, 1) := by decide +kernel
theorem dL_foundBy_4 : decode cL_foundBy 4 = .ok (.invokevirtual 73, 3) := by decide +kernel
theorem dL_foundBy_7 : decode cL_foundBy 7 = .ok (.lastore, 1) := by decide +kernel
theorem dL_foundBy_8 : decode cL_foundBy 8 = .ok (.goto 6, 3) := by decide +kernel
theorem dL_foundBy_11 : decode cL_foundBy 11 = .ok (.astore_n 3, 1) := by decide +kernel
theorem dL_foundBy_12 : decode cL_foundBy 12 = .ok (.iconst 1, 1) := by decide +kernel
theorem dL_foundBy_13 : decode cL_foundBy 13 = .ok (.ireturn, 1) := by decide +kernel
theorem dL_foundBy_14 : decode cL_foundBy 14 = .ok (.iconst 0, 1) := by decide +kernel
theorem dL_foundBy_15 : decode cL_foundBy 15 = .ok (.ireturn, 1) := by decide +kernel
set_option maxHeartbeats 4000000 in
set_option maxRecDepth 100000 in
theorem k_L_alike (l : Launch) (hfl : l.stackTraces = false) (D : va_G) (g : Nat → ClassId) (z0 sz : Nat) (a : Nat → Nat) (p0 : Int32) (h0 : Nat) : Met l yL_alike (.codeWith yL_alike cL_alike 4 (some .int) [(0, 9, 12, 26)] :: TG) (rmk 8 1 6 123) (va_Pc [.ref (a 0), .int p0, .ref h0] (PP D g z0 sz [(h0, .inl (g 1, 1, .inr (.inl (fun _ => 0)))), ((a 0), f_x a), ((a 2), f_book a)])) (va_Qi (fun (r : Int32) (u : Unit) => (r = 1) ∧ True) (fun (u : Unit) (t : State) => va_P D vwCl [(h0, .inl (g 1, 1, .inr (.inl (fun _ => 0))))] t.heap ∧ va_D (va_A [(h0, .inl (g 1, 1, .inr (.inl (fun _ => 0)))), ((a 0), f_x a), ((a 2), f_book a)] sz) [(h0, .inl (g 1, 1, .inr (.inl (fun _ => 0))))]) (va_A [(h0, .inl (g 1, 1, .inr (.inl (fun _ => 0)))), ((a 0), f_x a), ((a 2), f_book a)] sz)) 1 6 (va_A [(h0, .inl (g 1, 1, .inr (.inl (fun _ => 0)))), ((a 0), f_x a), ((a 2), f_book a)] sz) := by
  refine metW0 (cc := cL_alike) (n := 4) (hh := [(0, 9, 12, 26)]) (by decide) (Nat.le_of_ble_eq_true rfl) ?_
  intro p e s m args below meth c hx hb hr hml htab hown ht hlocks hnm hP0 hD0 hK hZ hsz hz ls hl
  subst hsz
  have hA : ∀ q : Nat, s.heap.size ≤ q → va_A [(h0, .inl (g 1, 1, .inr (.inl (fun _ => 0)))), ((a 0), f_x a), ((a 2), f_book a)] s.heap.size q := Anw
  have hAz : ∀ q, va_A [(h0, .inl (g 1, 1, .inr (.inl (fun _ => 0)))), ((a 0), f_x a), ((a 2), f_book a)] s.heap.size q → z0 ≤ q := Awz hz hD0
  have hS : va_S (va_A [(h0, .inl (g 1, 1, .inr (.inl (fun _ => 0)))), ((a 0), f_x a), ((a 2), f_book a)] s.heap.size) s.heap s.heap [] := va_S.rf
  have hD : va_D (va_A [(h0, .inl (g 1, 1, .inr (.inl (fun _ => 0)))), ((a 0), f_x a), ((a 2), f_book a)] s.heap.size) [(h0, .inl (g 1, 1, .inr (.inl (fun _ => 0)))), ((a 0), f_x a), ((a 2), f_book a)] := hD0.self
  have hP : va_P D vwCl [(h0, .inl (g 1, 1, .inr (.inl (fun _ => 0)))), ((a 0), f_x a), ((a 2), f_book a)] s.heap := hP0
  have hl : lv_has ls 4 [(0, .ref (a 0)), (1, .int p0), (2, .ref h0)] := hl
  refine lv_aload_n hx hb dL_alike_0 rfl (lv_at hl 2 rfl) ?_
  refine lv_iconst (v := 0) hx hb dL_alike_1 (by decide) ?_
  refine lv_aload_n hx hb dL_alike_2 rfl (lv_at hl 0 rfl) ?_
  refine lv_iload_n hx hb dL_alike_3 rfl (lv_at hl 1 rfl) ?_
  have hPc : va_P D vwCl [((a 0), f_x a), ((a 2), f_book a)] _ := hP.sub (ws' := [((a 0), f_x a), ((a 2), f_book a)]) [1, 2] rfl
  have hDc : va_D (fun q => z0 ≤ q) [((a 0), f_x a), ((a 2), f_book a)] := (hD.to hAz).pick (ws' := [((a 0), f_x a), ((a 2), f_book a)]) [1, 2] (by decide) rfl
  have hFc := AnA (ws := [(h0, .inl (g 1, 1, .inr (.inl (fun _ => 0)))), ((a 0), f_x a), ((a 2), f_book a)]) hS.1
  refine vx_calli (vx_runV (As := [.int p0]) (rest := [.int 0, .ref h0]) ⟨hx, hb, hml, hown, ht⟩ (k_X11_alike l hfl D g z0 _ a p0) (cwV 1 ht (gV w_530 w_532 w_533 w_31 w_531) rfl rfl rfl (by decide +kernel) (le2 rfl rfl)) ⟨PP.blind, va_recv hK.1 hP (ci := 17) (q0 := 1) rfl rfl, PP.mk' hK hZ hz hAz hS hPc hDc⟩ rfl rfl hl.1 rfl (lv_room (Nat.le_of_ble_eq_true rfl)) dL_alike_4 (le2 rfl rfl)) hS (fun q _ h => hFc q h) hFc (fun q _ h => hFc q h) (fun E ce q9 u t H locs ht1 hvm hw hB hz1 hk1 hS hcell hv9 hcl => ?_) (fun r u t H locs ht1 hvm hw hB hz1 hk1 hS => ?_)
  · have hP := ro1 hP hk1
    obtain ⟨rfl, hB⟩ := hB
    refine vx_catch hown [] ⟨0, 9, 12, 26⟩ [] (htab.trans rfl) (fun _ h9 => absurd h9 List.not_mem_nil) (by decide) (by decide) (ht _ w_534) (hK.2.2.use w_535) hcell hv9 hcl ?_
    refine W.eq (g2 := F0 m 12 ls [.ref q9]) rfl ?_
    refine lv_astore_n (lv' := [(3, .ref q9), (0, .ref (a 0)), (1, .int p0), (2, .ref h0)]) hx hb dL_alike_12 rfl hl (by decide) rfl (fun ls hl => ?_)
    refine lv_iconst (v := 1) hx hb dL_alike_13 (by decide) ?_
    have hP9 := hP.sub (ws' := [(h0, .inl (g 1, 1, .inr (.inl (fun _ => 0))))]) [0] rfl
    have hD9 := hD.sub (ws' := [(h0, .inl (g 1, 1, .inr (.inl (fun _ => 0))))]) [0] (by decide) rfl
    refine W.widen (k := 1) (n := 6) (Nat.le_of_ble_eq_true rfl) (Nat.le_of_ble_eq_true rfl) ?_
    exact W.iret (v := 1) hx hb hr (fun t ht9 hW9 => ⟨⟨1, (), rfl, ⟨rfl, trivial⟩, ⟨(by rw [ht9]; exact hP9), hD9⟩⟩, hS.F ht9⟩) hS.2.2 dL_alike_14 hlocks
  · exact hw.elim
set_option maxHeartbeats 4000000 in
set_option maxRecDepth 100000 in
theorem k_L_badWires (l : Launch) (hfl : l.stackTraces = false) (D : va_G) (g : Nat → ClassId) (z0 sz : Nat) (a : Nat → Nat) (p0 : Int32) (h0 : Nat) (hc_p0 : isC p0) : Met l yL_badWires (.codeWith yL_badWires cL_badWires 4 (some .int) [(0, 9, 12, 24)] :: TG) (rmk 8 1 6 125) (va_Pc [.ref (a 0), .int p0, .ref h0] (PP D g z0 sz [(h0, .inl (g 1, 1, .inr (.inl (fun _ => 0)))), ((a 0), f_x a), ((a 10), f_wires a)])) (va_Qi (fun (r : Int32) (u : Unit) => ((r = 1) ∧ ((¬ p0 = 99) ∧ (¬ p0 = 116))) ∨ ((r = 0) ∧ ((p0 = 99) ∨ ((¬ p0 = 99) ∧ (p0 = 116))))) (fun (u : Unit) (t : State) => va_P D vwCl [(h0, .inl (g 1, 1, .inr (.inl (fun _ => 0))))] t.heap ∧ va_D (va_A [(h0, .inl (g 1, 1, .inr (.inl (fun _ => 0)))), ((a 0), f_x a), ((a 10), f_wires a)] sz) [(h0, .inl (g 1, 1, .inr (.inl (fun _ => 0))))]) (va_A [(h0, .inl (g 1, 1, .inr (.inl (fun _ => 0)))), ((a 0), f_x a), ((a 10), f_wires a)] sz)) 1 6 (va_A [(h0, .inl (g 1, 1, .inr (.inl (fun _ => 0)))), ((a 0), f_x a), ((a 10), f_wires a)] sz) := by
  refine metW0 (cc := cL_badWires) (n := 4) (hh := [(0, 9, 12, 24)]) (by decide) (Nat.le_of_ble_eq_true rfl) ?_
  intro p e s m args below meth c hx hb hr hml htab hown ht hlocks hnm hP0 hD0 hK hZ hsz hz ls hl
  subst hsz
  have hA : ∀ q : Nat, s.heap.size ≤ q → va_A [(h0, .inl (g 1, 1, .inr (.inl (fun _ => 0)))), ((a 0), f_x a), ((a 10), f_wires a)] s.heap.size q := Anw
  have hAz : ∀ q, va_A [(h0, .inl (g 1, 1, .inr (.inl (fun _ => 0)))), ((a 0), f_x a), ((a 10), f_wires a)] s.heap.size q → z0 ≤ q := Awz hz hD0
  have hS : va_S (va_A [(h0, .inl (g 1, 1, .inr (.inl (fun _ => 0)))), ((a 0), f_x a), ((a 10), f_wires a)] s.heap.size) s.heap s.heap [] := va_S.rf
  have hD : va_D (va_A [(h0, .inl (g 1, 1, .inr (.inl (fun _ => 0)))), ((a 0), f_x a), ((a 10), f_wires a)] s.heap.size) [(h0, .inl (g 1, 1, .inr (.inl (fun _ => 0)))), ((a 0), f_x a), ((a 10), f_wires a)] := hD0.self
  have hP : va_P D vwCl [(h0, .inl (g 1, 1, .inr (.inl (fun _ => 0)))), ((a 0), f_x a), ((a 10), f_wires a)] s.heap := hP0
  have hl : lv_has ls 4 [(0, .ref (a 0)), (1, .int p0), (2, .ref h0)] := hl
  refine lv_aload_n hx hb dL_badWires_0 rfl (lv_at hl 2 rfl) ?_
  refine lv_iconst (v := 0) hx hb dL_badWires_1 (by decide) ?_
  refine lv_aload_n hx hb dL_badWires_2 rfl (lv_at hl 0 rfl) ?_
  refine lv_iload_n hx hb dL_badWires_3 rfl (lv_at hl 1 rfl) ?_
  have hPc : va_P D vwCl [((a 0), f_x a), ((a 10), f_wires a)] _ := hP.sub (ws' := [((a 0), f_x a), ((a 10), f_wires a)]) [1, 2] rfl
  have hDc : va_D (fun q => z0 ≤ q) [((a 0), f_x a), ((a 10), f_wires a)] := (hD.to hAz).pick (ws' := [((a 0), f_x a), ((a 10), f_wires a)]) [1, 2] (by decide) rfl
  have hFc := AnA (ws := [(h0, .inl (g 1, 1, .inr (.inl (fun _ => 0)))), ((a 0), f_x a), ((a 10), f_wires a)]) hS.1
  refine vx_calli (vx_runV (As := [.int p0]) (rest := [.int 0, .ref h0]) ⟨hx, hb, hml, hown, ht⟩ (k_X11_badWires l hfl D g z0 _ a p0 hc_p0) (cwV 1 ht (gV w_536 w_538 w_539 w_31 w_537) rfl rfl rfl (by decide +kernel) (le2 rfl rfl)) ⟨PP.blind, va_recv hK.1 hP (ci := 17) (q0 := 1) rfl rfl, PP.mk' hK hZ hz hAz hS hPc hDc⟩ rfl rfl hl.1 rfl (lv_room (Nat.le_of_ble_eq_true rfl)) dL_badWires_4 (le2 rfl rfl)) hS (fun q _ h => hFc q h) hFc (fun q _ h => hFc q h) (fun E ce q9 u t H locs ht1 hvm hw hB hz1 hk1 hS hcell hv9 hcl => ?_) (fun r u t H locs ht1 hvm hw hB hz1 hk1 hS => ?_)
  · have hP := ro1 hP hk1
    obtain ⟨rfl, hB⟩ := hB
    obtain ⟨c_1, c_2⟩ := hB
    refine vx_catch hown [] ⟨0, 9, 12, 24⟩ [] (htab.trans rfl) (fun _ h9 => absurd h9 List.not_mem_nil) (by decide) (by decide) (ht _ w_540) (hK.2.2.use w_541) hcell hv9 hcl ?_
    refine W.eq (g2 := F0 m 12 ls [.ref q9]) rfl ?_
    refine lv_astore_n (lv' := [(3, .ref q9), (0, .ref (a 0)), (1, .int p0), (2, .ref h0)]) hx hb dL_badWires_12 rfl hl (by decide) rfl (fun ls hl => ?_)
    refine lv_iconst (v := 1) hx hb dL_badWires_13 (by decide) ?_
    have hP9 := hP.sub (ws' := [(h0, .inl (g 1, 1, .inr (.inl (fun _ => 0))))]) [0] rfl
    have hD9 := hD.sub (ws' := [(h0, .inl (g 1, 1, .inr (.inl (fun _ => 0))))]) [0] (by decide) rfl
    refine W.widen (k := 1) (n := 6) (Nat.le_of_ble_eq_true rfl) (Nat.le_of_ble_eq_true rfl) ?_
    exact W.iret (v := 1) hx hb hr (fun t ht9 hW9 => ⟨⟨1, (), rfl, (Or.inl ⟨rfl, ⟨c_1, c_2⟩⟩), ⟨(by rw [ht9]; exact hP9), hD9⟩⟩, hS.F ht9⟩) hS.2.2 dL_badWires_14 hlocks
  · obtain ⟨rfl, hw⟩ := hw
    rcases hw with hw | hw
    · have c_3 := hw
      have hP := ro1 hP hk1
      refine lv_i2l (v := 0) hx hb dL_badWires_7 (by decide) ?_
      refine va_last hx hb hK.1 hP hD hS 0 1 rfl rfl (by unfold vp_in; decide) dL_badWires_8 (fun H locs hP hD hS => ?_)
      have hP : va_P D vwCl [(h0, .inl (g 1, 1, .inr (.inl (vp_updL (fun _ => 0) (0 : Int32).toNatClampNeg 0)))), ((a 0), f_x a), ((a 10), f_wires a)] H := hP
      have hD : va_D (va_A [(h0, .inl (g 1, 1, .inr (.inl (fun _ => 0)))), ((a 0), f_x a), ((a 10), f_wires a)] s.heap.size) [(h0, .inl (g 1, 1, .inr (.inl (vp_updL (fun _ => 0) (0 : Int32).toNatClampNeg 0)))), ((a 0), f_x a), ((a 10), f_wires a)] := hD
      have hP := one_up (v := 0) hP 0 rfl rfl
      have hD := va_D.set (p := 0) (e := .inl (g 1, 1, .inr (.inl (fun _ => 0)))) hD rfl
      have hP : va_P D vwCl [(h0, .inl (g 1, 1, .inr (.inl (fun _ => 0)))), ((a 0), f_x a), ((a 10), f_wires a)] H := hP
      have hD : va_D (va_A [(h0, .inl (g 1, 1, .inr (.inl (fun _ => 0)))), ((a 0), f_x a), ((a 10), f_wires a)] s.heap.size) [(h0, .inl (g 1, 1, .inr (.inl (fun _ => 0)))), ((a 0), f_x a), ((a 10), f_wires a)] := hD
      refine lv_goto (tgt := 15) hx hb dL_badWires_9 (by decide) ?_
      refine lv_iconst (v := 0) hx hb dL_badWires_15 (by decide) ?_
      have hP9 := hP.sub (ws' := [(h0, .inl (g 1, 1, .inr (.inl (fun _ => 0))))]) [0] rfl
      have hD9 := hD.sub (ws' := [(h0, .inl (g 1, 1, .inr (.inl (fun _ => 0))))]) [0] (by decide) rfl
      refine W.widen (k := 1) (n := 6) (Nat.le_of_ble_eq_true rfl) (Nat.le_of_ble_eq_true rfl) ?_
      exact W.iret (v := 0) hx hb hr (fun t ht9 hW9 => ⟨⟨0, (), rfl, (Or.inr ⟨rfl, (Or.inl c_3)⟩), ⟨(by rw [ht9]; exact hP9), hD9⟩⟩, hS.F ht9⟩) hS.2.2 dL_badWires_16 hlocks
    · obtain ⟨c_4, c_5⟩ := hw
      have hP := ro1 hP hk1
      refine lv_i2l (v := 0) hx hb dL_badWires_7 (by decide) ?_
      refine va_last hx hb hK.1 hP hD hS 0 1 rfl rfl (by unfold vp_in; decide) dL_badWires_8 (fun H locs hP hD hS => ?_)
      have hP : va_P D vwCl [(h0, .inl (g 1, 1, .inr (.inl (vp_updL (fun _ => 0) (0 : Int32).toNatClampNeg 0)))), ((a 0), f_x a), ((a 10), f_wires a)] H := hP
      have hD : va_D (va_A [(h0, .inl (g 1, 1, .inr (.inl (fun _ => 0)))), ((a 0), f_x a), ((a 10), f_wires a)] s.heap.size) [(h0, .inl (g 1, 1, .inr (.inl (vp_updL (fun _ => 0) (0 : Int32).toNatClampNeg 0)))), ((a 0), f_x a), ((a 10), f_wires a)] := hD
      have hP := one_up (v := 0) hP 0 rfl rfl
      have hD := va_D.set (p := 0) (e := .inl (g 1, 1, .inr (.inl (fun _ => 0)))) hD rfl
      have hP : va_P D vwCl [(h0, .inl (g 1, 1, .inr (.inl (fun _ => 0)))), ((a 0), f_x a), ((a 10), f_wires a)] H := hP
      have hD : va_D (va_A [(h0, .inl (g 1, 1, .inr (.inl (fun _ => 0)))), ((a 0), f_x a), ((a 10), f_wires a)] s.heap.size) [(h0, .inl (g 1, 1, .inr (.inl (fun _ => 0)))), ((a 0), f_x a), ((a 10), f_wires a)] := hD
      refine lv_goto (tgt := 15) hx hb dL_badWires_9 (by decide) ?_
      refine lv_iconst (v := 0) hx hb dL_badWires_15 (by decide) ?_
      have hP9 := hP.sub (ws' := [(h0, .inl (g 1, 1, .inr (.inl (fun _ => 0))))]) [0] rfl
      have hD9 := hD.sub (ws' := [(h0, .inl (g 1, 1, .inr (.inl (fun _ => 0))))]) [0] (by decide) rfl
      refine W.widen (k := 1) (n := 6) (Nat.le_of_ble_eq_true rfl) (Nat.le_of_ble_eq_true rfl) ?_
      exact W.iret (v := 0) hx hb hr (fun t ht9 hW9 => ⟨⟨0, (), rfl, (Or.inr ⟨rfl, (Or.inr ⟨c_4, c_5⟩)⟩), ⟨(by rw [ht9]; exact hP9), hD9⟩⟩, hS.F ht9⟩) hS.2.2 dL_badWires_16 hlocks
set_option maxHeartbeats 4000000 in
set_option maxRecDepth 100000 in
theorem k_L_begins (l : Launch) (hfl : l.stackTraces = false) (D : va_G) (g : Nat → ClassId) (z0 sz : Nat) (a : Nat → Nat) (p0 : Int32) (p1 : Int32) (p2 : Int32) (h0 : Nat) : Met l yL_begins (.codeWith yL_begins cL_begins 6 (some .int) [(0, 12, 15, 26), (0, 12, 19, 86)] :: TG) (rmk 7 1 6 104) (va_Pc [.ref (a 0), .int p0, .int p1, .int p2, .ref h0] (PP D g z0 sz [(h0, .inl (g 1, 1, .inr (.inl (fun _ => 0)))), ((a 0), f_x a), ((a 11), f_cores a)])) (va_Qi (fun (r : Int32) (u : Unit) => (r = 1) ∧ True) (fun (u : Unit) (t : State) => va_P D vwCl [(h0, .inl (g 1, 1, .inr (.inl (fun _ => 0))))] t.heap ∧ va_D (va_A [(h0, .inl (g 1, 1, .inr (.inl (fun _ => 0)))), ((a 0), f_x a), ((a 11), f_cores a)] sz) [(h0, .inl (g 1, 1, .inr (.inl (fun _ => 0))))]) (va_A [(h0, .inl (g 1, 1, .inr (.inl (fun _ => 0)))), ((a 0), f_x a), ((a 11), f_cores a)] sz)) 1 6 (va_A [(h0, .inl (g 1, 1, .inr (.inl (fun _ => 0)))), ((a 0), f_x a), ((a 11), f_cores a)] sz) := by
  refine metW0 (cc := cL_begins) (n := 6) (hh := [(0, 12, 15, 26), (0, 12, 19, 86)]) (by decide) (Nat.le_of_ble_eq_true rfl) ?_
  intro p e s m args below meth c hx hb hr hml htab hown ht hlocks hnm hP0 hD0 hK hZ hsz hz ls hl
  subst hsz
  have hA : ∀ q : Nat, s.heap.size ≤ q → va_A [(h0, .inl (g 1, 1, .inr (.inl (fun _ => 0)))), ((a 0), f_x a), ((a 11), f_cores a)] s.heap.size q := Anw
  have hAz : ∀ q, va_A [(h0, .inl (g 1, 1, .inr (.inl (fun _ => 0)))), ((a 0), f_x a), ((a 11), f_cores a)] s.heap.size q → z0 ≤ q := Awz hz hD0
  have hS : va_S (va_A [(h0, .inl (g 1, 1, .inr (.inl (fun _ => 0)))), ((a 0), f_x a), ((a 11), f_cores a)] s.heap.size) s.heap s.heap [] := va_S.rf
  have hD : va_D (va_A [(h0, .inl (g 1, 1, .inr (.inl (fun _ => 0)))), ((a 0), f_x a), ((a 11), f_cores a)] s.heap.size) [(h0, .inl (g 1, 1, .inr (.inl (fun _ => 0)))), ((a 0), f_x a), ((a 11), f_cores a)] := hD0.self
  have hP : va_P D vwCl [(h0, .inl (g 1, 1, .inr (.inl (fun _ => 0)))), ((a 0), f_x a), ((a 11), f_cores a)] s.heap := hP0
  have hl : lv_has ls 6 [(0, .ref (a 0)), (1, .int p0), (2, .int p1), (3, .int p2), (4, .ref h0)] := hl
  refine lv_aload hx hb dL_begins_0 (lv_at hl 4 rfl) ?_
  refine lv_iconst (v := 0) hx hb dL_begins_2 (by decide) ?_
  refine lv_aload_n hx hb dL_begins_3 rfl (lv_at hl 0 rfl) ?_
  refine lv_iload_n hx hb dL_begins_4 rfl (lv_at hl 1 rfl) ?_
  refine lv_iload_n hx hb dL_begins_5 rfl (lv_at hl 2 rfl) ?_
  refine lv_iload_n hx hb dL_begins_6 rfl (lv_at hl 3 rfl) ?_
  have hPc : va_P D vwCl [((a 0), f_x a), ((a 11), f_cores a)] _ := hP.sub (ws' := [((a 0), f_x a), ((a 11), f_cores a)]) [1, 2] rfl
  have hDc : va_D (fun q => z0 ≤ q) [((a 0), f_x a), ((a 11), f_cores a)] := (hD.to hAz).pick (ws' := [((a 0), f_x a), ((a 11), f_cores a)]) [1, 2] (by decide) rfl
  have hFc := AnA (ws := [(h0, .inl (g 1, 1, .inr (.inl (fun _ => 0)))), ((a 0), f_x a), ((a 11), f_cores a)]) hS.1
  refine vx_calli (vx_runV (As := [.int p0, .int p1, .int p2]) (rest := [.int 0, .ref h0]) ⟨hx, hb, hml, hown, ht⟩ (k_X11_begins l hfl D g z0 _ a p0 p1 p2) (cwV 3 ht (gV w_542 w_544 w_545 w_31 w_543) rfl rfl rfl (by decide +kernel) (le2 rfl rfl)) ⟨PP.blind, va_recv hK.1 hP (ci := 17) (q0 := 1) rfl rfl, PP.mk' hK hZ hz hAz hS hPc hDc⟩ rfl rfl hl.1 rfl (lv_room (Nat.le_of_ble_eq_true rfl)) dL_begins_7 (le2 rfl rfl)) hS (fun q _ h => hFc q h) hFc (fun q _ h => hFc q h) (fun E ce q9 u t H locs ht1 hvm hw hB hz1 hk1 hS hcell hv9 hcl => ?_) (fun r u t H locs ht1 hvm hw hB hz1 hk1 hS => ?_)
  · have hP := ro1 hP hk1
    obtain ⟨rfl, hB⟩ := hB
    refine vx_catch hown [] ⟨0, 12, 15, 26⟩ [⟨0, 12, 19, 86⟩] (htab.trans rfl) (fun _ h9 => absurd h9 List.not_mem_nil) (by decide) (by decide) (ht _ w_534) (hK.2.2.use w_535) hcell hv9 hcl ?_
    refine W.eq (g2 := F0 m 15 ls [.ref q9]) rfl ?_
    refine lv_astore (lv' := [(5, .ref q9), (0, .ref (a 0)), (1, .int p0), (2, .int p1), (3, .int p2), (4, .ref h0)]) hx hb dL_begins_15 hl (by decide) rfl (fun ls hl => ?_)
    refine lv_iconst (v := 1) hx hb dL_begins_17 (by decide) ?_
    have hP9 := hP.sub (ws' := [(h0, .inl (g 1, 1, .inr (.inl (fun _ => 0))))]) [0] rfl
    have hD9 := hD.sub (ws' := [(h0, .inl (g 1, 1, .inr (.inl (fun _ => 0))))]) [0] (by decide) rfl
    refine W.widen (k := 1) (n := 6) (Nat.le_of_ble_eq_true rfl) (Nat.le_of_ble_eq_true rfl) ?_
    exact W.iret (v := 1) hx hb hr (fun t ht9 hW9 => ⟨⟨1, (), rfl, ⟨rfl, trivial⟩, ⟨(by rw [ht9]; exact hP9), hD9⟩⟩, hS.F ht9⟩) hS.2.2 dL_begins_18 hlocks
  · exact hw.elim
set_option maxHeartbeats 4000000 in
set_option maxRecDepth 100000 in
theorem k_L_board (l : Launch) (hfl : l.stackTraces = false) (D : va_G) (g : Nat → ClassId) (z0 sz : Nat) (a : Nat → Nat) (p0 : Int32) (p1 : Int32) (h0 : Nat) (hc_p1 : isC p1) : Met l yL_board (.codeWith yL_board cL_board 5 (some .int) [(0, 10, 13, 24)] :: TG) (rmk 8 2 12 125) (va_Pc [.ref (a 0), .int p0, .int p1, .ref h0] (PP D g z0 sz [(h0, .inl (g 1, 1, .inr (.inl (fun _ => 0)))), ((a 0), f_x a), ((a 10), f_wires a), ((a 61), .inl (g 0, 12, .inl (fun _ => 0))), ((a 62), .inl (g 0, 12, .inl (fun _ => 0)))])) (va_Qi (fun (r : Int32) (u : Unit) => ((r = 1) ∧ ((p0 < 1) ∨ ((¬ p0 < 1) ∧ (¬ p0 ≤ 12)) ∨ ((¬ p0 < 1) ∧ (p0 ≤ 12) ∧ (¬ p1 = 97) ∧ (¬ p1 = 111)))) ∨ ((r = 0) ∧ (((¬ p0 < 1) ∧ (p0 ≤ 12) ∧ (p1 = 97)) ∨ ((¬ p0 < 1) ∧ (p0 ≤ 12) ∧ (¬ p1 = 97) ∧ (p1 = 111))))) (fun (u : Unit) (t : State) => va_P D vwCl [(h0, .inl (g 1, 1, .inr (.inl (fun _ => 0))))] t.heap ∧ va_D (va_A [(h0, .inl (g 1, 1, .inr (.inl (fun _ => 0)))), ((a 0), f_x a), ((a 10), f_wires a), ((a 61), .inl (g 0, 12, .inl (fun _ => 0))), ((a 62), .inl (g 0, 12, .inl (fun _ => 0)))] sz) [(h0, .inl (g 1, 1, .inr (.inl (fun _ => 0))))]) (va_A [(h0, .inl (g 1, 1, .inr (.inl (fun _ => 0)))), ((a 0), f_x a), ((a 10), f_wires a), ((a 61), .inl (g 0, 12, .inl (fun _ => 0))), ((a 62), .inl (g 0, 12, .inl (fun _ => 0)))] sz)) 2 12 (va_A [(h0, .inl (g 1, 1, .inr (.inl (fun _ => 0)))), ((a 0), f_x a), ((a 10), f_wires a), ((a 61), .inl (g 0, 12, .inl (fun _ => 0))), ((a 62), .inl (g 0, 12, .inl (fun _ => 0)))] sz) := by
  refine metW0 (cc := cL_board) (n := 5) (hh := [(0, 10, 13, 24)]) (by decide) (Nat.le_of_ble_eq_true rfl) ?_
  intro p e s m args below meth c hx hb hr hml htab hown ht hlocks hnm hP0 hD0 hK hZ hsz hz ls hl
  subst hsz
  have hA : ∀ q : Nat, s.heap.size ≤ q → va_A [(h0, .inl (g 1, 1, .inr (.inl (fun _ => 0)))), ((a 0), f_x a), ((a 10), f_wires a), ((a 61), .inl (g 0, 12, .inl (fun _ => 0))), ((a 62), .inl (g 0, 12, .inl (fun _ => 0)))] s.heap.size q := Anw
  have hAz : ∀ q, va_A [(h0, .inl (g 1, 1, .inr (.inl (fun _ => 0)))), ((a 0), f_x a), ((a 10), f_wires a), ((a 61), .inl (g 0, 12, .inl (fun _ => 0))), ((a 62), .inl (g 0, 12, .inl (fun _ => 0)))] s.heap.size q → z0 ≤ q := Awz hz hD0
  have hS : va_S (va_A [(h0, .inl (g 1, 1, .inr (.inl (fun _ => 0)))), ((a 0), f_x a), ((a 10), f_wires a), ((a 61), .inl (g 0, 12, .inl (fun _ => 0))), ((a 62), .inl (g 0, 12, .inl (fun _ => 0)))] s.heap.size) s.heap s.heap [] := va_S.rf
  have hD : va_D (va_A [(h0, .inl (g 1, 1, .inr (.inl (fun _ => 0)))), ((a 0), f_x a), ((a 10), f_wires a), ((a 61), .inl (g 0, 12, .inl (fun _ => 0))), ((a 62), .inl (g 0, 12, .inl (fun _ => 0)))] s.heap.size) [(h0, .inl (g 1, 1, .inr (.inl (fun _ => 0)))), ((a 0), f_x a), ((a 10), f_wires a), ((a 61), .inl (g 0, 12, .inl (fun _ => 0))), ((a 62), .inl (g 0, 12, .inl (fun _ => 0)))] := hD0.self
  have hP : va_P D vwCl [(h0, .inl (g 1, 1, .inr (.inl (fun _ => 0)))), ((a 0), f_x a), ((a 10), f_wires a), ((a 61), .inl (g 0, 12, .inl (fun _ => 0))), ((a 62), .inl (g 0, 12, .inl (fun _ => 0)))] s.heap := hP0
  have hl : lv_has ls 5 [(0, .ref (a 0)), (1, .int p0), (2, .int p1), (3, .ref h0)] := hl
  refine lv_aload_n hx hb dL_board_0 rfl (lv_at hl 3 rfl) ?_
  refine lv_iconst (v := 0) hx hb dL_board_1 (by decide) ?_
  refine lv_aload_n hx hb dL_board_2 rfl (lv_at hl 0 rfl) ?_
  refine lv_iload_n hx hb dL_board_3 rfl (lv_at hl 1 rfl) ?_
  refine lv_iload_n hx hb dL_board_4 rfl (lv_at hl 2 rfl) ?_
  have hPc : va_P D vwCl [((a 0), f_x a), ((a 10), f_wires a), ((a 61), .inl (g 0, 12, .inl (fun _ => 0))), ((a 62), .inl (g 0, 12, .inl (fun _ => 0)))] _ := hP.sub (ws' := [((a 0), f_x a), ((a 10), f_wires a), ((a 61), .inl (g 0, 12, .inl (fun _ => 0))), ((a 62), .inl (g 0, 12, .inl (fun _ => 0)))]) [1, 2, 3, 4] rfl
  have hDc : va_D (fun q => z0 ≤ q) [((a 0), f_x a), ((a 10), f_wires a), ((a 61), .inl (g 0, 12, .inl (fun _ => 0))), ((a 62), .inl (g 0, 12, .inl (fun _ => 0)))] := (hD.to hAz).pick (ws' := [((a 0), f_x a), ((a 10), f_wires a), ((a 61), .inl (g 0, 12, .inl (fun _ => 0))), ((a 62), .inl (g 0, 12, .inl (fun _ => 0)))]) [1, 2, 3, 4] (by decide) rfl
  have hFc := va_free (wc := [((a 0), f_x a), ((a 10), f_wires a), ((a 61), .inl (g 0, 12, .inl (fun _ => 0))), ((a 62), .inl (g 0, 12, .inl (fun _ => 0)))]) hD hS hA [1, 2, 3, 4] rfl
  refine vx_calli (vx_runV (As := [.int p0, .int p1]) (rest := [.int 0, .ref h0]) ⟨hx, hb, hml, hown, ht⟩ (k_X11_board l hfl D g z0 _ a p0 p1 hc_p1) (cwV 2 ht (gV w_546 w_548 w_549 w_31 w_547) rfl rfl rfl (by decide +kernel) (le2 rfl rfl)) ⟨PP.blind, va_recv hK.1 hP (ci := 17) (q0 := 1) rfl rfl, PP.mk' hK hZ hz hAz hS hPc hDc⟩ rfl rfl hl.1 rfl (lv_room (Nat.le_of_ble_eq_true rfl)) dL_board_5 (le2 rfl rfl)) hS (fun q _ h => hFc q h) hFc (fun q _ h => hFc q h) (fun E ce q9 u t H locs ht1 hvm hw hB hz1 hk1 hS hcell hv9 hcl => ?_) (fun r u t H locs ht1 hvm hw hB hz1 hk1 hS => ?_)
  · obtain ⟨hP, hD⟩ := va_join (wr := [(h0, .inl (g 1, 1, .inr (.inl (fun _ => 0))))]) (w1 := []) hP hD [1, 2, 3, 4] [0] rfl rfl (by decide) (by decide) hk1 hFc nil_P nil_D
    have hP : va_P D vwCl [(h0, .inl (g 1, 1, .inr (.inl (fun _ => 0))))] H := hP
    have hD : va_D (va_A [(h0, .inl (g 1, 1, .inr (.inl (fun _ => 0)))), ((a 0), f_x a), ((a 10), f_wires a), ((a 61), .inl (g 0, 12, .inl (fun _ => 0))), ((a 62), .inl (g 0, 12, .inl (fun _ => 0)))] s.heap.size) [(h0, .inl (g 1, 1, .inr (.inl (fun _ => 0))))] := hD
    obtain ⟨rfl, hB⟩ := hB
    rcases hB with hB | hB | hB
    · have c_1 := hB
      refine vx_catch hown [] ⟨0, 10, 13, 24⟩ [] (htab.trans rfl) (fun _ h9 => absurd h9 List.not_mem_nil) (by decide) (by decide) (ht _ w_540) (hK.2.2.use w_541) hcell hv9 hcl ?_
      refine W.eq (g2 := F0 m 13 ls [.ref q9]) rfl ?_
      refine lv_astore (lv' := [(4, .ref q9), (0, .ref (a 0)), (1, .int p0), (2, .int p1), (3, .ref h0)]) hx hb dL_board_13 hl (by decide) rfl (fun ls hl => ?_)
      refine lv_iconst (v := 1) hx hb dL_board_15 (by decide) ?_
      have hP9 := hP.sub (ws' := [(h0, .inl (g 1, 1, .inr (.inl (fun _ => 0))))]) [0] rfl
      have hD9 := hD.sub (ws' := [(h0, .inl (g 1, 1, .inr (.inl (fun _ => 0))))]) [0] (by decide) rfl
      refine W.widen (k := 2) (n := 12) (Nat.le_of_ble_eq_true rfl) (Nat.le_of_ble_eq_true rfl) ?_
      exact W.iret (v := 1) hx hb hr (fun t ht9 hW9 => ⟨⟨1, (), rfl, (Or.inl ⟨rfl, (Or.inl c_1)⟩), ⟨(by rw [ht9]; exact hP9), hD9⟩⟩, hS.F ht9⟩) hS.2.2 dL_board_16 hlocks
    · obtain ⟨c_2, c_3⟩ := hB
      refine vx_catch hown [] ⟨0, 10, 13, 24⟩ [] (htab.trans rfl) (fun _ h9 => absurd h9 List.not_mem_nil) (by decide) (by decide) (ht _ w_540) (hK.2.2.use w_541) hcell hv9 hcl ?_
      refine W.eq (g2 := F0 m 13 ls [.ref q9]) rfl ?_
      refine lv_astore (lv' := [(4, .ref q9), (0, .ref (a 0)), (1, .int p0), (2, .int p1), (3, .ref h0)]) hx hb dL_board_13 hl (by decide) rfl (fun ls hl => ?_)
      refine lv_iconst (v := 1) hx hb dL_board_15 (by decide) ?_
      have hP9 := hP.sub (ws' := [(h0, .inl (g 1, 1, .inr (.inl (fun _ => 0))))]) [0] rfl
      have hD9 := hD.sub (ws' := [(h0, .inl (g 1, 1, .inr (.inl (fun _ => 0))))]) [0] (by decide) rfl
      refine W.widen (k := 2) (n := 12) (Nat.le_of_ble_eq_true rfl) (Nat.le_of_ble_eq_true rfl) ?_
      exact W.iret (v := 1) hx hb hr (fun t ht9 hW9 => ⟨⟨1, (), rfl, (Or.inl ⟨rfl, (Or.inr (Or.inl ⟨c_2, c_3⟩))⟩), ⟨(by rw [ht9]; exact hP9), hD9⟩⟩, hS.F ht9⟩) hS.2.2 dL_board_16 hlocks
    · obtain ⟨c_4, c_5, c_6, c_7⟩ := hB
      refine vx_catch hown [] ⟨0, 10, 13, 24⟩ [] (htab.trans rfl) (fun _ h9 => absurd h9 List.not_mem_nil) (by decide) (by decide) (ht _ w_540) (hK.2.2.use w_541) hcell hv9 hcl ?_
      refine W.eq (g2 := F0 m 13 ls [.ref q9]) rfl ?_
      refine lv_astore (lv' := [(4, .ref q9), (0, .ref (a 0)), (1, .int p0), (2, .int p1), (3, .ref h0)]) hx hb dL_board_13 hl (by decide) rfl (fun ls hl => ?_)
      refine lv_iconst (v := 1) hx hb dL_board_15 (by decide) ?_
      have hP9 := hP.sub (ws' := [(h0, .inl (g 1, 1, .inr (.inl (fun _ => 0))))]) [0] rfl
      have hD9 := hD.sub (ws' := [(h0, .inl (g 1, 1, .inr (.inl (fun _ => 0))))]) [0] (by decide) rfl
      refine W.widen (k := 2) (n := 12) (Nat.le_of_ble_eq_true rfl) (Nat.le_of_ble_eq_true rfl) ?_
      exact W.iret (v := 1) hx hb hr (fun t ht9 hW9 => ⟨⟨1, (), rfl, (Or.inl ⟨rfl, (Or.inr (Or.inr ⟨c_4, c_5, c_6, c_7⟩))⟩), ⟨(by rw [ht9]; exact hP9), hD9⟩⟩, hS.F ht9⟩) hS.2.2 dL_board_16 hlocks
  · obtain ⟨rfl, hw⟩ := hw
    rcases hw with hw | hw
    · obtain ⟨c_8, c_9, c_10⟩ := hw
      obtain ⟨hP1, hD1⟩ := hB
      rw [ht1] at hP1
      obtain ⟨hP, hD⟩ := va_join (wr := [(h0, .inl (g 1, 1, .inr (.inl (fun _ => 0))))]) (w1 := []) hP hD [1, 2, 3, 4] [0] rfl rfl (by decide) (by decide) hk1 hFc hP1 hD1
      have hP : va_P D vwCl [(h0, .inl (g 1, 1, .inr (.inl (fun _ => 0))))] H := hP
      have hD : va_D (va_A [(h0, .inl (g 1, 1, .inr (.inl (fun _ => 0)))), ((a 0), f_x a), ((a 10), f_wires a), ((a 61), .inl (g 0, 12, .inl (fun _ => 0))), ((a 62), .inl (g 0, 12, .inl (fun _ => 0)))] s.heap.size) [(h0, .inl (g 1, 1, .inr (.inl (fun _ => 0))))] := hD
      refine lv_i2l (v := 0) hx hb dL_board_8 (by decide) ?_
      refine va_last hx hb hK.1 hP hD hS 0 1 rfl rfl (by unfold vp_in; decide) dL_board_9 (fun H locs hP hD hS => ?_)
      have hP : va_P D vwCl [(h0, .inl (g 1, 1, .inr (.inl (vp_updL (fun _ => 0) (0 : Int32).toNatClampNeg 0))))] H := hP
      have hD : va_D (va_A [(h0, .inl (g 1, 1, .inr (.inl (fun _ => 0)))), ((a 0), f_x a), ((a 10), f_wires a), ((a 61), .inl (g 0, 12, .inl (fun _ => 0))), ((a 62), .inl (g 0, 12, .inl (fun _ => 0)))] s.heap.size) [(h0, .inl (g 1, 1, .inr (.inl (vp_updL (fun _ => 0) (0 : Int32).toNatClampNeg 0))))] := hD
      have hP := one_up (v := 0) hP 0 rfl rfl
      have hD := va_D.set (p := 0) (e := .inl (g 1, 1, .inr (.inl (fun _ => 0)))) hD rfl
      have hP : va_P D vwCl [(h0, .inl (g 1, 1, .inr (.inl (fun _ => 0))))] H := hP
      have hD : va_D (va_A [(h0, .inl (g 1, 1, .inr (.inl (fun _ => 0)))), ((a 0), f_x a), ((a 10), f_wires a), ((a 61), .inl (g 0, 12, .inl (fun _ => 0))), ((a 62), .inl (g 0, 12, .inl (fun _ => 0)))] s.heap.size) [(h0, .inl (g 1, 1, .inr (.inl (fun _ => 0))))] := hD
      refine lv_goto (tgt := 17) hx hb dL_board_10 (by decide) ?_
      refine lv_iconst (v := 0) hx hb dL_board_17 (by decide) ?_
      have hP9 := hP.sub (ws' := [(h0, .inl (g 1, 1, .inr (.inl (fun _ => 0))))]) [0] rfl
      have hD9 := hD.sub (ws' := [(h0, .inl (g 1, 1, .inr (.inl (fun _ => 0))))]) [0] (by decide) rfl
      refine W.widen (k := 2) (n := 12) (Nat.le_of_ble_eq_true rfl) (Nat.le_of_ble_eq_true rfl) ?_
      exact W.iret (v := 0) hx hb hr (fun t ht9 hW9 => ⟨⟨0, (), rfl, (Or.inr ⟨rfl, (Or.inl ⟨c_8, c_9, c_10⟩)⟩), ⟨(by rw [ht9]; exact hP9), hD9⟩⟩, hS.F ht9⟩) hS.2.2 dL_board_18 hlocks
    · obtain ⟨c_11, c_12, c_13, c_14⟩ := hw
      obtain ⟨hP1, hD1⟩ := hB
      rw [ht1] at hP1
      obtain ⟨hP, hD⟩ := va_join (wr := [(h0, .inl (g 1, 1, .inr (.inl (fun _ => 0))))]) (w1 := []) hP hD [1, 2, 3, 4] [0] rfl rfl (by decide) (by decide) hk1 hFc hP1 hD1
      have hP : va_P D vwCl [(h0, .inl (g 1, 1, .inr (.inl (fun _ => 0))))] H := hP
      have hD : va_D (va_A [(h0, .inl (g 1, 1, .inr (.inl (fun _ => 0)))), ((a 0), f_x a), ((a 10), f_wires a), ((a 61), .inl (g 0, 12, .inl (fun _ => 0))), ((a 62), .inl (g 0, 12, .inl (fun _ => 0)))] s.heap.size) [(h0, .inl (g 1, 1, .inr (.inl (fun _ => 0))))] := hD
      refine lv_i2l (v := 0) hx hb dL_board_8 (by decide) ?_
      refine va_last hx hb hK.1 hP hD hS 0 1 rfl rfl (by unfold vp_in; decide) dL_board_9 (fun H locs hP hD hS => ?_)
      have hP : va_P D vwCl [(h0, .inl (g 1, 1, .inr (.inl (vp_updL (fun _ => 0) (0 : Int32).toNatClampNeg 0))))] H := hP
      have hD : va_D (va_A [(h0, .inl (g 1, 1, .inr (.inl (fun _ => 0)))), ((a 0), f_x a), ((a 10), f_wires a), ((a 61), .inl (g 0, 12, .inl (fun _ => 0))), ((a 62), .inl (g 0, 12, .inl (fun _ => 0)))] s.heap.size) [(h0, .inl (g 1, 1, .inr (.inl (vp_updL (fun _ => 0) (0 : Int32).toNatClampNeg 0))))] := hD
      have hP := one_up (v := 0) hP 0 rfl rfl
      have hD := va_D.set (p := 0) (e := .inl (g 1, 1, .inr (.inl (fun _ => 0)))) hD rfl
      have hP : va_P D vwCl [(h0, .inl (g 1, 1, .inr (.inl (fun _ => 0))))] H := hP
      have hD : va_D (va_A [(h0, .inl (g 1, 1, .inr (.inl (fun _ => 0)))), ((a 0), f_x a), ((a 10), f_wires a), ((a 61), .inl (g 0, 12, .inl (fun _ => 0))), ((a 62), .inl (g 0, 12, .inl (fun _ => 0)))] s.heap.size) [(h0, .inl (g 1, 1, .inr (.inl (fun _ => 0))))] := hD
      refine lv_goto (tgt := 17) hx hb dL_board_10 (by decide) ?_
      refine lv_iconst (v := 0) hx hb dL_board_17 (by decide) ?_
      have hP9 := hP.sub (ws' := [(h0, .inl (g 1, 1, .inr (.inl (fun _ => 0))))]) [0] rfl
      have hD9 := hD.sub (ws' := [(h0, .inl (g 1, 1, .inr (.inl (fun _ => 0))))]) [0] (by decide) rfl
      refine W.widen (k := 2) (n := 12) (Nat.le_of_ble_eq_true rfl) (Nat.le_of_ble_eq_true rfl) ?_
      exact W.iret (v := 0) hx hb hr (fun t ht9 hW9 => ⟨⟨0, (), rfl, (Or.inr ⟨rfl, (Or.inr ⟨c_11, c_12, c_13, c_14⟩)⟩), ⟨(by rw [ht9]; exact hP9), hD9⟩⟩, hS.F ht9⟩) hS.2.2 dL_board_18 hlocks
set_option maxHeartbeats 4000000 in
set_option maxRecDepth 100000 in
theorem k_L_breakChain (l : Launch) (hfl : l.stackTraces = false) (D : va_G) (g : Nat → ClassId) (z0 sz : Nat) (a : Nat → Nat) (p0 : Int32) (p1 : Int32) (h0 : Nat) : Met l yL_breakChain (.codeWith yL_breakChain cL_breakChain 5 (some .int) [(0, 10, 13, 24), (0, 10, 17, 13)] :: TG) (rmk 8 3 18 126) (va_Pc [.ref (a 0), .int p0, .int p1, .ref h0] (PP D g z0 sz [(h0, .inl (g 1, 1, .inr (.inl (fun _ => 0)))), ((a 0), f_x a), ((a 1), f_net a)])) (va_Qi (fun (r : Int32) (u : Unit) => ((r = 1) ∧ ((p0 < (-1)) ∨ ((¬ p0 < (-1)) ∧ (¬ p0 ≤ (-1))) ∨ ((¬ p0 < (-1)) ∧ (p0 ≤ (-1)) ∧ (p1 < 0)) ∨ ((¬ p0 < (-1)) ∧ (p0 ≤ (-1)) ∧ (¬ p1 < 0) ∧ (¬ p1 ≤ 1)))) ∨ ((r = 2) ∧ ((¬ p0 < (-1)) ∧ (p0 ≤ (-1)) ∧ (¬ p1 < 0) ∧ (p1 ≤ 1)))) (fun (u : Unit) (t : State) => va_P D vwCl [(h0, .inl (g 1, 1, .inr (.inl (fun _ => 0))))] t.heap ∧ va_D (va_A [(h0, .inl (g 1, 1, .inr (.inl (fun _ => 0)))), ((a 0), f_x a), ((a 1), f_net a)] sz) [(h0, .inl (g 1, 1, .inr (.inl (fun _ => 0))))]) (va_A [(h0, .inl (g 1, 1, .inr (.inl (fun _ => 0)))), ((a 0), f_x a), ((a 1), f_net a)] sz)) 3 18 (va_A [(h0, .inl (g 1, 1, .inr (.inl (fun _ => 0)))), ((a 0), f_x a), ((a 1), f_net a)] sz) := by
  refine metW0 (cc := cL_breakChain) (n := 5) (hh := [(0, 10, 13, 24), (0, 10, 17, 13)]) (by decide) (Nat.le_of_ble_eq_true rfl) ?_
  intro p e s m args below meth c hx hb hr hml htab hown ht hlocks hnm hP0 hD0 hK hZ hsz hz ls hl
  subst hsz
  have hA : ∀ q : Nat, s.heap.size ≤ q → va_A [(h0, .inl (g 1, 1, .inr (.inl (fun _ => 0)))), ((a 0), f_x a), ((a 1), f_net a)] s.heap.size q := Anw
  have hAz : ∀ q, va_A [(h0, .inl (g 1, 1, .inr (.inl (fun _ => 0)))), ((a 0), f_x a), ((a 1), f_net a)] s.heap.size q → z0 ≤ q := Awz hz hD0
  have hS : va_S (va_A [(h0, .inl (g 1, 1, .inr (.inl (fun _ => 0)))), ((a 0), f_x a), ((a 1), f_net a)] s.heap.size) s.heap s.heap [] := va_S.rf
  have hD : va_D (va_A [(h0, .inl (g 1, 1, .inr (.inl (fun _ => 0)))), ((a 0), f_x a), ((a 1), f_net a)] s.heap.size) [(h0, .inl (g 1, 1, .inr (.inl (fun _ => 0)))), ((a 0), f_x a), ((a 1), f_net a)] := hD0.self
  have hP : va_P D vwCl [(h0, .inl (g 1, 1, .inr (.inl (fun _ => 0)))), ((a 0), f_x a), ((a 1), f_net a)] s.heap := hP0
  have hl : lv_has ls 5 [(0, .ref (a 0)), (1, .int p0), (2, .int p1), (3, .ref h0)] := hl
  refine lv_aload_n hx hb dL_breakChain_0 rfl (lv_at hl 3 rfl) ?_
  refine lv_iconst (v := 0) hx hb dL_breakChain_1 (by decide) ?_
  refine lv_aload_n hx hb dL_breakChain_2 rfl (lv_at hl 0 rfl) ?_
  refine lv_iload_n hx hb dL_breakChain_3 rfl (lv_at hl 1 rfl) ?_
  refine lv_iload_n hx hb dL_breakChain_4 rfl (lv_at hl 2 rfl) ?_
  have hPc : va_P D vwCl [((a 0), f_x a), ((a 1), f_net a)] _ := hP.sub (ws' := [((a 0), f_x a), ((a 1), f_net a)]) [1, 2] rfl
  have hDc : va_D (fun q => z0 ≤ q) [((a 0), f_x a), ((a 1), f_net a)] := (hD.to hAz).pick (ws' := [((a 0), f_x a), ((a 1), f_net a)]) [1, 2] (by decide) rfl
  have hFc := AnA (ws := [(h0, .inl (g 1, 1, .inr (.inl (fun _ => 0)))), ((a 0), f_x a), ((a 1), f_net a)]) hS.1
  refine vx_calli (vx_runV (As := [.int p0, .int p1]) (rest := [.int 0, .ref h0]) ⟨hx, hb, hml, hown, ht⟩ (k_X11_breakChain l hfl D g z0 _ a p0 p1) (cwV 2 ht (gV w_550 w_552 w_553 w_31 w_551) rfl rfl rfl (by decide +kernel) (le2 rfl rfl)) ⟨PP.blind, va_recv hK.1 hP (ci := 17) (q0 := 1) rfl rfl, PP.mk' hK hZ hz hAz hS hPc hDc⟩ rfl rfl hl.1 rfl (lv_room (Nat.le_of_ble_eq_true rfl)) dL_breakChain_5 (le2 rfl rfl)) hS (fun q _ h => hFc q h) hFc (fun q _ h => hFc q h) (fun E ce q9 u t H locs ht1 hvm hw hB hz1 hk1 hS hcell hv9 hcl => ?_) (fun r u t H locs ht1 hvm hw hB hz1 hk1 hS => ?_)
  · have hP := ro1 hP hk1
    rcases hB with hB | hB
    · obtain ⟨rfl, hB⟩ := hB
      rcases hB with hB | hB | hB | hB
      · have c_1 := hB
        refine vx_catch hown [] ⟨0, 10, 13, 24⟩ [⟨0, 10, 17, 13⟩] (htab.trans rfl) (fun _ h9 => absurd h9 List.not_mem_nil) (by decide) (by decide) (ht _ w_540) (hK.2.2.use w_541) hcell hv9 hcl ?_
        refine W.eq (g2 := F0 m 13 ls [.ref q9]) rfl ?_
        refine lv_astore (lv' := [(4, .ref q9), (0, .ref (a 0)), (1, .int p0), (2, .int p1), (3, .ref h0)]) hx hb dL_breakChain_13 hl (by decide) rfl (fun ls hl => ?_)
        refine lv_iconst (v := 1) hx hb dL_breakChain_15 (by decide) ?_
        have hP9 := hP.sub (ws' := [(h0, .inl (g 1, 1, .inr (.inl (fun _ => 0))))]) [0] rfl
        have hD9 := hD.sub (ws' := [(h0, .inl (g 1, 1, .inr (.inl (fun _ => 0))))]) [0] (by decide) rfl
        refine W.widen (k := 3) (n := 18) (Nat.le_of_ble_eq_true rfl) (Nat.le_of_ble_eq_true rfl) ?_
        exact W.iret (v := 1) hx hb hr (fun t ht9 hW9 => ⟨⟨1, (), rfl, (Or.inl ⟨rfl, (Or.inl c_1)⟩), ⟨(by rw [ht9]; exact hP9), hD9⟩⟩, hS.F ht9⟩) hS.2.2 dL_breakChain_16 hlocks
      · obtain ⟨c_2, c_3⟩ := hB
        refine vx_catch hown [] ⟨0, 10, 13, 24⟩ [⟨0, 10, 17, 13⟩] (htab.trans rfl) (fun _ h9 => absurd h9 List.not_mem_nil) (by decide) (by decide) (ht _ w_540) (hK.2.2.use w_541) hcell hv9 hcl ?_
        refine W.eq (g2 := F0 m 13 ls [.ref q9]) rfl ?_
        refine lv_astore (lv' := [(4, .ref q9), (0, .ref (a 0)), (1, .int p0), (2, .int p1), (3, .ref h0)]) hx hb dL_breakChain_13 hl (by decide) rfl (fun ls hl => ?_)
        refine lv_iconst (v := 1) hx hb dL_breakChain_15 (by decide) ?_
        have hP9 := hP.sub (ws' := [(h0, .inl (g 1, 1, .inr (.inl (fun _ => 0))))]) [0] rfl
        have hD9 := hD.sub (ws' := [(h0, .inl (g 1, 1, .inr (.inl (fun _ => 0))))]) [0] (by decide) rfl
        refine W.widen (k := 3) (n := 18) (Nat.le_of_ble_eq_true rfl) (Nat.le_of_ble_eq_true rfl) ?_
        exact W.iret (v := 1) hx hb hr (fun t ht9 hW9 => ⟨⟨1, (), rfl, (Or.inl ⟨rfl, (Or.inr (Or.inl ⟨c_2, c_3⟩))⟩), ⟨(by rw [ht9]; exact hP9), hD9⟩⟩, hS.F ht9⟩) hS.2.2 dL_breakChain_16 hlocks
      · obtain ⟨c_4, c_5, c_6⟩ := hB
        refine vx_catch hown [] ⟨0, 10, 13, 24⟩ [⟨0, 10, 17, 13⟩] (htab.trans rfl) (fun _ h9 => absurd h9 List.not_mem_nil) (by decide) (by decide) (ht _ w_540) (hK.2.2.use w_541) hcell hv9 hcl ?_
        refine W.eq (g2 := F0 m 13 ls [.ref q9]) rfl ?_
        refine lv_astore (lv' := [(4, .ref q9), (0, .ref (a 0)), (1, .int p0), (2, .int p1), (3, .ref h0)]) hx hb dL_breakChain_13 hl (by decide) rfl (fun ls hl => ?_)
        refine lv_iconst (v := 1) hx hb dL_breakChain_15 (by decide) ?_
        have hP9 := hP.sub (ws' := [(h0, .inl (g 1, 1, .inr (.inl (fun _ => 0))))]) [0] rfl
        have hD9 := hD.sub (ws' := [(h0, .inl (g 1, 1, .inr (.inl (fun _ => 0))))]) [0] (by decide) rfl
        refine W.widen (k := 3) (n := 18) (Nat.le_of_ble_eq_true rfl) (Nat.le_of_ble_eq_true rfl) ?_
        exact W.iret (v := 1) hx hb hr (fun t ht9 hW9 => ⟨⟨1, (), rfl, (Or.inl ⟨rfl, (Or.inr (Or.inr (Or.inl ⟨c_4, c_5, c_6⟩)))⟩), ⟨(by rw [ht9]; exact hP9), hD9⟩⟩, hS.F ht9⟩) hS.2.2 dL_breakChain_16 hlocks
      · obtain ⟨c_7, c_8, c_9, c_10⟩ := hB
        refine vx_catch hown [] ⟨0, 10, 13, 24⟩ [⟨0, 10, 17, 13⟩] (htab.trans rfl) (fun _ h9 => absurd h9 List.not_mem_nil) (by decide) (by decide) (ht _ w_540) (hK.2.2.use w_541) hcell hv9 hcl ?_
        refine W.eq (g2 := F0 m 13 ls [.ref q9]) rfl ?_
        refine lv_astore (lv' := [(4, .ref q9), (0, .ref (a 0)), (1, .int p0), (2, .int p1), (3, .ref h0)]) hx hb dL_breakChain_13 hl (by decide) rfl (fun ls hl => ?_)
        refine lv_iconst (v := 1) hx hb dL_breakChain_15 (by decide) ?_
        have hP9 := hP.sub (ws' := [(h0, .inl (g 1, 1, .inr (.inl (fun _ => 0))))]) [0] rfl
        have hD9 := hD.sub (ws' := [(h0, .inl (g 1, 1, .inr (.inl (fun _ => 0))))]) [0] (by decide) rfl
        refine W.widen (k := 3) (n := 18) (Nat.le_of_ble_eq_true rfl) (Nat.le_of_ble_eq_true rfl) ?_
        exact W.iret (v := 1) hx hb hr (fun t ht9 hW9 => ⟨⟨1, (), rfl, (Or.inl ⟨rfl, (Or.inr (Or.inr (Or.inr ⟨c_7, c_8, c_9, c_10⟩)))⟩), ⟨(by rw [ht9]; exact hP9), hD9⟩⟩, hS.F ht9⟩) hS.2.2 dL_breakChain_16 hlocks
    · obtain ⟨rfl, hB⟩ := hB
      obtain ⟨c_11, c_12, c_13, c_14⟩ := hB
      refine vx_catch hown [⟨0, 10, 13, 24⟩] ⟨0, 10, 17, 13⟩ [] (htab.trans rfl) (List.forall_mem_cons.mpr ⟨Or.inr ⟨by decide, "java/lang/IllegalArgumentException", ht _ w_540, hK.2.2.2.2.1 _ (List.mem_of_getElem? (i := 12) rfl)⟩, (fun _ h9 => absurd h9 List.not_mem_nil)⟩) (by decide) (by decide) (ht _ w_554) (hK.2.2.use w_555) hcell hv9 hcl ?_
      refine W.eq (g2 := F0 m 17 ls [.ref q9]) rfl ?_
      refine lv_astore (lv' := [(4, .ref q9), (0, .ref (a 0)), (1, .int p0), (2, .int p1), (3, .ref h0)]) hx hb dL_breakChain_17 hl (by decide) rfl (fun ls hl => ?_)
      refine lv_iconst (v := 2) hx hb dL_breakChain_19 (by decide) ?_
      have hP9 := hP.sub (ws' := [(h0, .inl (g 1, 1, .inr (.inl (fun _ => 0))))]) [0] rfl
      have hD9 := hD.sub (ws' := [(h0, .inl (g 1, 1, .inr (.inl (fun _ => 0))))]) [0] (by decide) rfl
      refine W.widen (k := 3) (n := 18) (Nat.le_of_ble_eq_true rfl) (Nat.le_of_ble_eq_true rfl) ?_
      exact W.iret (v := 2) hx hb hr (fun t ht9 hW9 => ⟨⟨2, (), rfl, (Or.inr ⟨rfl, ⟨c_11, c_12, c_13, c_14⟩⟩), ⟨(by rw [ht9]; exact hP9), hD9⟩⟩, hS.F ht9⟩) hS.2.2 dL_breakChain_20 hlocks
  · exact hw.elim
set_option maxHeartbeats 4000000 in
set_option maxRecDepth 100000 in
theorem k_L_breakChip (l : Launch) (hfl : l.stackTraces = false) (D : va_G) (g : Nat → ClassId) (z0 sz : Nat) (a : Nat → Nat) (p0 : Int32) (h0 : Nat) : Met l yL_breakChip (.codeWith yL_breakChip cL_breakChip 4 (some .int) [(0, 9, 12, 26), (0, 9, 15, 24), (0, 9, 18, 15)] :: TG) (rmk 9 1 6 144) (va_Pc [.ref (a 0), .int p0, .ref h0] (PP D g z0 sz [(h0, .inl (g 1, 1, .inr (.inl (fun _ => 0)))), ((a 0), f_x a), ((a 2), f_book a)])) (va_Qi (fun (r : Int32) (u : Unit) => (r = 1) ∧ True) (fun (u : Unit) (t : State) => va_P D vwCl [(h0, .inl (g 1, 1, .inr (.inl (fun _ => 0))))] t.heap ∧ va_D (va_A [(h0, .inl (g 1, 1, .inr (.inl (fun _ => 0)))), ((a 0), f_x a), ((a 2), f_book a)] sz) [(h0, .inl (g 1, 1, .inr (.inl (fun _ => 0))))]) (va_A [(h0, .inl (g 1, 1, .inr (.inl (fun _ => 0)))), ((a 0), f_x a), ((a 2), f_book a)] sz)) 1 6 (va_A [(h0, .inl (g 1, 1, .inr (.inl (fun _ => 0)))), ((a 0), f_x a), ((a 2), f_book a)] sz) := by
  refine metW0 (cc := cL_breakChip) (n := 4) (hh := [(0, 9, 12, 26), (0, 9, 15, 24), (0, 9, 18, 15)]) (by decide) (Nat.le_of_ble_eq_true rfl) ?_
  intro p e s m args below meth c hx hb hr hml htab hown ht hlocks hnm hP0 hD0 hK hZ hsz hz ls hl
  subst hsz
  have hA : ∀ q : Nat, s.heap.size ≤ q → va_A [(h0, .inl (g 1, 1, .inr (.inl (fun _ => 0)))), ((a 0), f_x a), ((a 2), f_book a)] s.heap.size q := Anw
  have hAz : ∀ q, va_A [(h0, .inl (g 1, 1, .inr (.inl (fun _ => 0)))), ((a 0), f_x a), ((a 2), f_book a)] s.heap.size q → z0 ≤ q := Awz hz hD0
  have hS : va_S (va_A [(h0, .inl (g 1, 1, .inr (.inl (fun _ => 0)))), ((a 0), f_x a), ((a 2), f_book a)] s.heap.size) s.heap s.heap [] := va_S.rf
  have hD : va_D (va_A [(h0, .inl (g 1, 1, .inr (.inl (fun _ => 0)))), ((a 0), f_x a), ((a 2), f_book a)] s.heap.size) [(h0, .inl (g 1, 1, .inr (.inl (fun _ => 0)))), ((a 0), f_x a), ((a 2), f_book a)] := hD0.self
  have hP : va_P D vwCl [(h0, .inl (g 1, 1, .inr (.inl (fun _ => 0)))), ((a 0), f_x a), ((a 2), f_book a)] s.heap := hP0
  have hl : lv_has ls 4 [(0, .ref (a 0)), (1, .int p0), (2, .ref h0)] := hl
  refine lv_aload_n hx hb dL_breakChip_0 rfl (lv_at hl 2 rfl) ?_
  refine lv_iconst (v := 0) hx hb dL_breakChip_1 (by decide) ?_
  refine lv_aload_n hx hb dL_breakChip_2 rfl (lv_at hl 0 rfl) ?_
  refine lv_iload_n hx hb dL_breakChip_3 rfl (lv_at hl 1 rfl) ?_
  have hPc : va_P D vwCl [((a 0), f_x a), ((a 2), f_book a)] _ := hP.sub (ws' := [((a 0), f_x a), ((a 2), f_book a)]) [1, 2] rfl
  have hDc : va_D (fun q => z0 ≤ q) [((a 0), f_x a), ((a 2), f_book a)] := (hD.to hAz).pick (ws' := [((a 0), f_x a), ((a 2), f_book a)]) [1, 2] (by decide) rfl
  have hFc := AnA (ws := [(h0, .inl (g 1, 1, .inr (.inl (fun _ => 0)))), ((a 0), f_x a), ((a 2), f_book a)]) hS.1
  refine vx_calli (vx_runV (As := [.int p0]) (rest := [.int 0, .ref h0]) ⟨hx, hb, hml, hown, ht⟩ (k_X11_breakChip l hfl D g z0 _ a p0) (cwV 1 ht (gV w_556 w_558 w_559 w_31 w_557) rfl rfl rfl (by decide +kernel) (le2 rfl rfl)) ⟨PP.blind, va_recv hK.1 hP (ci := 17) (q0 := 1) rfl rfl, PP.mk' hK hZ hz hAz hS hPc hDc⟩ rfl rfl hl.1 rfl (lv_room (Nat.le_of_ble_eq_true rfl)) dL_breakChip_4 (le2 rfl rfl)) hS (fun q _ h => hFc q h) hFc (fun q _ h => hFc q h) (fun E ce q9 u t H locs ht1 hvm hw hB hz1 hk1 hS hcell hv9 hcl => ?_) (fun r u t H locs ht1 hvm hw hB hz1 hk1 hS => ?_)
  · have hP := ro1 hP hk1
    obtain ⟨rfl, hB⟩ := hB
    refine vx_catch hown [] ⟨0, 9, 12, 26⟩ [⟨0, 9, 15, 24⟩, ⟨0, 9, 18, 15⟩] (htab.trans rfl) (fun _ h9 => absurd h9 List.not_mem_nil) (by decide) (by decide) (ht _ w_534) (hK.2.2.use w_535) hcell hv9 hcl ?_
    refine W.eq (g2 := F0 m 12 ls [.ref q9]) rfl ?_
    refine lv_astore_n (lv' := [(3, .ref q9), (0, .ref (a 0)), (1, .int p0), (2, .ref h0)]) hx hb dL_breakChip_12 rfl hl (by decide) rfl (fun ls hl => ?_)
    refine lv_iconst (v := 1) hx hb dL_breakChip_13 (by decide) ?_
    have hP9 := hP.sub (ws' := [(h0, .inl (g 1, 1, .inr (.inl (fun _ => 0))))]) [0] rfl
    have hD9 := hD.sub (ws' := [(h0, .inl (g 1, 1, .inr (.inl (fun _ => 0))))]) [0] (by decide) rfl
    refine W.widen (k := 1) (n := 6) (Nat.le_of_ble_eq_true rfl) (Nat.le_of_ble_eq_true rfl) ?_
    exact W.iret (v := 1) hx hb hr (fun t ht9 hW9 => ⟨⟨1, (), rfl, ⟨rfl, trivial⟩, ⟨(by rw [ht9]; exact hP9), hD9⟩⟩, hS.F ht9⟩) hS.2.2 dL_breakChip_14 hlocks
  · exact hw.elim
set_option maxHeartbeats 4000000 in
set_option maxRecDepth 100000 in
theorem k_L_bridge (l : Launch) (hfl : l.stackTraces = false) (D : va_G) (g : Nat → ClassId) (z0 sz : Nat) (a : Nat → Nat) (p0 : Int32) (p1 : Int32) (p2 : Int32) (h0 : Nat) (hc_p0 : isC p0) : Met l yL_bridge (.codeWith yL_bridge cL_bridge 6 (some .int) [(0, 12, 15, 24), (0, 12, 19, 26), (0, 12, 23, 13), (0, 12, 27, 15)] :: TG) (rmk 8 1 6 125) (va_Pc [.ref (a 0), .int p0, .int p1, .int p2, .ref h0] (PP D g z0 sz [(h0, .inl (g 1, 1, .inr (.inl (fun _ => 0)))), ((a 0), f_x a), ((a 1), f_net a)])) (va_Qi (fun (r : Int32) (u : Unit) => ((r = 2) ∧ ((p0 = 119) ∨ ((¬ p0 = 119) ∧ (p0 = 117)) ∨ ((¬ p0 = 119) ∧ (¬ p0 = 117) ∧ (p0 = 100)))) ∨ ((r = 1) ∧ ((¬ p0 = 119) ∧ (¬ p0 = 117) ∧ (¬ p0 = 100)))) (fun (u : Unit) (t : State) => va_P D vwCl [(h0, .inl (g 1, 1, .inr (.inl (fun _ => 0))))] t.heap ∧ va_D (va_A [(h0, .inl (g 1, 1, .inr (.inl (fun _ => 0)))), ((a 0), f_x a), ((a 1), f_net a)] sz) [(h0, .inl (g 1, 1, .inr (.inl (fun _ => 0))))]) (va_A [(h0, .inl (g 1, 1, .inr (.inl (fun _ => 0)))), ((a 0), f_x a), ((a 1), f_net a)] sz)) 1 6 (va_A [(h0, .inl (g 1, 1, .inr (.inl (fun _ => 0)))), ((a 0), f_x a), ((a 1), f_net a)] sz) := by
  refine metW0 (cc := cL_bridge) (n := 6) (hh := [(0, 12, 15, 24), (0, 12, 19, 26), (0, 12, 23, 13), (0, 12, 27, 15)]) (by decide) (Nat.le_of_ble_eq_true rfl) ?_
  intro p e s m args below meth c hx hb hr hml htab hown ht hlocks hnm hP0 hD0 hK hZ hsz hz ls hl
  subst hsz
  have hA : ∀ q : Nat, s.heap.size ≤ q → va_A [(h0, .inl (g 1, 1, .inr (.inl (fun _ => 0)))), ((a 0), f_x a), ((a 1), f_net a)] s.heap.size q := Anw
  have hAz : ∀ q, va_A [(h0, .inl (g 1, 1, .inr (.inl (fun _ => 0)))), ((a 0), f_x a), ((a 1), f_net a)] s.heap.size q → z0 ≤ q := Awz hz hD0
  have hS : va_S (va_A [(h0, .inl (g 1, 1, .inr (.inl (fun _ => 0)))), ((a 0), f_x a), ((a 1), f_net a)] s.heap.size) s.heap s.heap [] := va_S.rf
  have hD : va_D (va_A [(h0, .inl (g 1, 1, .inr (.inl (fun _ => 0)))), ((a 0), f_x a), ((a 1), f_net a)] s.heap.size) [(h0, .inl (g 1, 1, .inr (.inl (fun _ => 0)))), ((a 0), f_x a), ((a 1), f_net a)] := hD0.self
  have hP : va_P D vwCl [(h0, .inl (g 1, 1, .inr (.inl (fun _ => 0)))), ((a 0), f_x a), ((a 1), f_net a)] s.heap := hP0
  have hl : lv_has ls 6 [(0, .ref (a 0)), (1, .int p0), (2, .int p1), (3, .int p2), (4, .ref h0)] := hl
  refine lv_aload hx hb dL_bridge_0 (lv_at hl 4 rfl) ?_
  refine lv_iconst (v := 0) hx hb dL_bridge_2 (by decide) ?_
  refine lv_aload_n hx hb dL_bridge_3 rfl (lv_at hl 0 rfl) ?_
  refine lv_iload_n hx hb dL_bridge_4 rfl (lv_at hl 1 rfl) ?_
  refine lv_iload_n hx hb dL_bridge_5 rfl (lv_at hl 2 rfl) ?_
  refine lv_iload_n hx hb dL_bridge_6 rfl (lv_at hl 3 rfl) ?_
  have hPc : va_P D vwCl [((a 0), f_x a), ((a 1), f_net a)] _ := hP.sub (ws' := [((a 0), f_x a), ((a 1), f_net a)]) [1, 2] rfl
  have hDc : va_D (fun q => z0 ≤ q) [((a 0), f_x a), ((a 1), f_net a)] := (hD.to hAz).pick (ws' := [((a 0), f_x a), ((a 1), f_net a)]) [1, 2] (by decide) rfl
  have hFc := AnA (ws := [(h0, .inl (g 1, 1, .inr (.inl (fun _ => 0)))), ((a 0), f_x a), ((a 1), f_net a)]) hS.1
  refine vx_calli (vx_runV (As := [.int p0, .int p1, .int p2]) (rest := [.int 0, .ref h0]) ⟨hx, hb, hml, hown, ht⟩ (k_X11_bridge l hfl D g z0 _ a p0 p1 p2 hc_p0) (cwV 3 ht (gV w_560 w_562 w_563 w_31 w_561) rfl rfl rfl (by decide +kernel) (le2 rfl rfl)) ⟨PP.blind, va_recv hK.1 hP (ci := 17) (q0 := 1) rfl rfl, PP.mk' hK hZ hz hAz hS hPc hDc⟩ rfl rfl hl.1 rfl (lv_room (Nat.le_of_ble_eq_true rfl)) dL_bridge_7 (le2 rfl rfl)) hS (fun q _ h => hFc q h) hFc (fun q _ h => hFc q h) (fun E ce q9 u t H locs ht1 hvm hw hB hz1 hk1 hS hcell hv9 hcl => ?_) (fun r u t H locs ht1 hvm hw hB hz1 hk1 hS => ?_)
  · have hP := ro1 hP hk1
    rcases hB with hB | hB
    · obtain ⟨rfl, hB⟩ := hB
      rcases hB with hB | hB | hB
      · have c_1 := hB
        refine vx_catch hown [⟨0, 12, 15, 24⟩] ⟨0, 12, 19, 26⟩ [⟨0, 12, 23, 13⟩, ⟨0, 12, 27, 15⟩] (htab.trans rfl) (List.forall_mem_cons.mpr ⟨Or.inr ⟨by decide, "java/lang/IllegalArgumentException", ht _ w_540, hK.2.2.2.2.1 _ (List.mem_of_getElem? (i := 15) rfl)⟩, (fun _ h9 => absurd h9 List.not_mem_nil)⟩) (by decide) (by decide) (ht _ w_534) (hK.2.2.use w_535) hcell hv9 hcl ?_
        refine W.eq (g2 := F0 m 19 ls [.ref q9]) rfl ?_
        refine lv_astore (lv' := [(5, .ref q9), (0, .ref (a 0)), (1, .int p0), (2, .int p1), (3, .int p2), (4, .ref h0)]) hx hb dL_bridge_19 hl (by decide) rfl (fun ls hl => ?_)
        refine lv_iconst (v := 2) hx hb dL_bridge_21 (by decide) ?_
        have hP9 := hP.sub (ws' := [(h0, .inl (g 1, 1, .inr (.inl (fun _ => 0))))]) [0] rfl
        have hD9 := hD.sub (ws' := [(h0, .inl (g 1, 1, .inr (.inl (fun _ => 0))))]) [0] (by decide) rfl
        refine W.widen (k := 1) (n := 6) (Nat.le_of_ble_eq_true rfl) (Nat.le_of_ble_eq_true rfl) ?_
        exact W.iret (v := 2) hx hb hr (fun t ht9 hW9 => ⟨⟨2, (), rfl, (Or.inl ⟨rfl, (Or.inl c_1)⟩), ⟨(by rw [ht9]; exact hP9), hD9⟩⟩, hS.F ht9⟩) hS.2.2 dL_bridge_22 hlocks
      · obtain ⟨c_2, c_3⟩ := hB
        refine vx_catch hown [⟨0, 12, 15, 24⟩] ⟨0, 12, 19, 26⟩ [⟨0, 12, 23, 13⟩, ⟨0, 12, 27, 15⟩] (htab.trans rfl) (List.forall_mem_cons.mpr ⟨Or.inr ⟨by decide, "java/lang/IllegalArgumentException", ht _ w_540, hK.2.2.2.2.1 _ (List.mem_of_getElem? (i := 15) rfl)⟩, (fun _ h9 => absurd h9 List.not_mem_nil)⟩) (by decide) (by decide) (ht _ w_534) (hK.2.2.use w_535) hcell hv9 hcl ?_
        refine W.eq (g2 := F0 m 19 ls [.ref q9]) rfl ?_
        refine lv_astore (lv' := [(5, .ref q9), (0, .ref (a 0)), (1, .int p0), (2, .int p1), (3, .int p2), (4, .ref h0)]) hx hb dL_bridge_19 hl (by decide) rfl (fun ls hl => ?_)
        refine lv_iconst (v := 2) hx hb dL_bridge_21 (by decide) ?_
        have hP9 := hP.sub (ws' := [(h0, .inl (g 1, 1, .inr (.inl (fun _ => 0))))]) [0] rfl
        have hD9 := hD.sub (ws' := [(h0, .inl (g 1, 1, .inr (.inl (fun _ => 0))))]) [0] (by decide) rfl
        refine W.widen (k := 1) (n := 6) (Nat.le_of_ble_eq_true rfl) (Nat.le_of_ble_eq_true rfl) ?_
        exact W.iret (v := 2) hx hb hr (fun t ht9 hW9 => ⟨⟨2, (), rfl, (Or.inl ⟨rfl, (Or.inr (Or.inl ⟨c_2, c_3⟩))⟩), ⟨(by rw [ht9]; exact hP9), hD9⟩⟩, hS.F ht9⟩) hS.2.2 dL_bridge_22 hlocks
      · obtain ⟨c_4, c_5, c_6⟩ := hB
        refine vx_catch hown [⟨0, 12, 15, 24⟩] ⟨0, 12, 19, 26⟩ [⟨0, 12, 23, 13⟩, ⟨0, 12, 27, 15⟩] (htab.trans rfl) (List.forall_mem_cons.mpr ⟨Or.inr ⟨by decide, "java/lang/IllegalArgumentException", ht _ w_540, hK.2.2.2.2.1 _ (List.mem_of_getElem? (i := 15) rfl)⟩, (fun _ h9 => absurd h9 List.not_mem_nil)⟩) (by decide) (by decide) (ht _ w_534) (hK.2.2.use w_535) hcell hv9 hcl ?_
        refine W.eq (g2 := F0 m 19 ls [.ref q9]) rfl ?_
        refine lv_astore (lv' := [(5, .ref q9), (0, .ref (a 0)), (1, .int p0), (2, .int p1), (3, .int p2), (4, .ref h0)]) hx hb dL_bridge_19 hl (by decide) rfl (fun ls hl => ?_)
        refine lv_iconst (v := 2) hx hb dL_bridge_21 (by decide) ?_
        have hP9 := hP.sub (ws' := [(h0, .inl (g 1, 1, .inr (.inl (fun _ => 0))))]) [0] rfl
        have hD9 := hD.sub (ws' := [(h0, .inl (g 1, 1, .inr (.inl (fun _ => 0))))]) [0] (by decide) rfl
        refine W.widen (k := 1) (n := 6) (Nat.le_of_ble_eq_true rfl) (Nat.le_of_ble_eq_true rfl) ?_
        exact W.iret (v := 2) hx hb hr (fun t ht9 hW9 => ⟨⟨2, (), rfl, (Or.inl ⟨rfl, (Or.inr (Or.inr ⟨c_4, c_5, c_6⟩))⟩), ⟨(by rw [ht9]; exact hP9), hD9⟩⟩, hS.F ht9⟩) hS.2.2 dL_bridge_22 hlocks
    · obtain ⟨rfl, hB⟩ := hB
      obtain ⟨c_7, c_8, c_9⟩ := hB
      refine vx_catch hown [] ⟨0, 12, 15, 24⟩ [⟨0, 12, 19, 26⟩, ⟨0, 12, 23, 13⟩, ⟨0, 12, 27, 15⟩] (htab.trans rfl) (fun _ h9 => absurd h9 List.not_mem_nil) (by decide) (by decide) (ht _ w_540) (hK.2.2.use w_541) hcell hv9 hcl ?_
      refine W.eq (g2 := F0 m 15 ls [.ref q9]) rfl ?_
      refine lv_astore (lv' := [(5, .ref q9), (0, .ref (a 0)), (1, .int p0), (2, .int p1), (3, .int p2), (4, .ref h0)]) hx hb dL_bridge_15 hl (by decide) rfl (fun ls hl => ?_)
      refine lv_iconst (v := 1) hx hb dL_bridge_17 (by decide) ?_
      have hP9 := hP.sub (ws' := [(h0, .inl (g 1, 1, .inr (.inl (fun _ => 0))))]) [0] rfl
      have hD9 := hD.sub (ws' := [(h0, .inl (g 1, 1, .inr (.inl (fun _ => 0))))]) [0] (by decide) rfl
      refine W.widen (k := 1) (n := 6) (Nat.le_of_ble_eq_true rfl) (Nat.le_of_ble_eq_true rfl) ?_
      exact W.iret (v := 1) hx hb hr (fun t ht9 hW9 => ⟨⟨1, (), rfl, (Or.inr ⟨rfl, ⟨c_7, c_8, c_9⟩⟩), ⟨(by rw [ht9]; exact hP9), hD9⟩⟩, hS.F ht9⟩) hS.2.2 dL_bridge_18 hlocks
  · exact hw.elim
set_option maxHeartbeats 4000000 in
set_option maxRecDepth 100000 in
theorem k_L_candidate (l : Launch) (hfl : l.stackTraces = false) (D : va_G) (g : Nat → ClassId) (z0 sz : Nat) (a : Nat → Nat) (p0 : Int32) (h0 : Nat) : Met l yL_candidate (.codeWith yL_candidate cL_candidate 4 (some .int) [(0, 9, 12, 86)] :: TG) (rmk 7 1 6 132) (va_Pc [.ref (a 0), .int p0, .ref h0] (PP D g z0 sz [(h0, .inl (g 1, 1, .inr (.inl (fun _ => 0)))), ((a 0), f_x a), ((a 8), f_chip a), ((a 3), f_rows a), ((a 4), f_words a), ((a 38), .inl (g 1, 12, .inr (.inl (fun _ => 0)))), ((a 39), .inl (g 1, 12, .inr (.inl (fun _ => 0)))), ((a 1), f_net a), ((a 2), f_book a)])) (va_Qi (fun (r : Int32) (u : Unit) => (r = 1) ∧ True) (fun (u : Unit) (t : State) => va_P D vwCl [(h0, .inl (g 1, 1, .inr (.inl (fun _ => 0))))] t.heap ∧ va_D (va_A [(h0, .inl (g 1, 1, .inr (.inl (fun _ => 0)))), ((a 0), f_x a), ((a 8), f_chip a), ((a 3), f_rows a), ((a 4), f_words a), ((a 38), .inl (g 1, 12, .inr (.inl (fun _ => 0)))), ((a 39), .inl (g 1, 12, .inr (.inl (fun _ => 0)))), ((a 1), f_net a), ((a 2), f_book a)] sz) [(h0, .inl (g 1, 1, .inr (.inl (fun _ => 0))))]) (va_A [(h0, .inl (g 1, 1, .inr (.inl (fun _ => 0)))), ((a 0), f_x a), ((a 8), f_chip a), ((a 3), f_rows a), ((a 4), f_words a), ((a 38), .inl (g 1, 12, .inr (.inl (fun _ => 0)))), ((a 39), .inl (g 1, 12, .inr (.inl (fun _ => 0)))), ((a 1), f_net a), ((a 2), f_book a)] sz)) 1 6 (va_A [(h0, .inl (g 1, 1, .inr (.inl (fun _ => 0)))), ((a 0), f_x a), ((a 8), f_chip a), ((a 3), f_rows a), ((a 4), f_words a), ((a 38), .inl (g 1, 12, .inr (.inl (fun _ => 0)))), ((a 39), .inl (g 1, 12, .inr (.inl (fun _ => 0)))), ((a 1), f_net a), ((a 2), f_book a)] sz) := by
  refine metW0 (cc := cL_candidate) (n := 4) (hh := [(0, 9, 12, 86)]) (by decide) (Nat.le_of_ble_eq_true rfl) ?_
  intro p e s m args below meth c hx hb hr hml htab hown ht hlocks hnm hP0 hD0 hK hZ hsz hz ls hl
  subst hsz
  have hA : ∀ q : Nat, s.heap.size ≤ q → va_A [(h0, .inl (g 1, 1, .inr (.inl (fun _ => 0)))), ((a 0), f_x a), ((a 8), f_chip a), ((a 3), f_rows a), ((a 4), f_words a), ((a 38), .inl (g 1, 12, .inr (.inl (fun _ => 0)))), ((a 39), .inl (g 1, 12, .inr (.inl (fun _ => 0)))), ((a 1), f_net a), ((a 2), f_book a)] s.heap.size q := Anw
  have hAz : ∀ q, va_A [(h0, .inl (g 1, 1, .inr (.inl (fun _ => 0)))), ((a 0), f_x a), ((a 8), f_chip a), ((a 3), f_rows a), ((a 4), f_words a), ((a 38), .inl (g 1, 12, .inr (.inl (fun _ => 0)))), ((a 39), .inl (g 1, 12, .inr (.inl (fun _ => 0)))), ((a 1), f_net a), ((a 2), f_book a)] s.heap.size q → z0 ≤ q := Awz hz hD0
  have hS : va_S (va_A [(h0, .inl (g 1, 1, .inr (.inl (fun _ => 0)))), ((a 0), f_x a), ((a 8), f_chip a), ((a 3), f_rows a), ((a 4), f_words a), ((a 38), .inl (g 1, 12, .inr (.inl (fun _ => 0)))), ((a 39), .inl (g 1, 12, .inr (.inl (fun _ => 0)))), ((a 1), f_net a), ((a 2), f_book a)] s.heap.size) s.heap s.heap [] := va_S.rf
  have hD : va_D (va_A [(h0, .inl (g 1, 1, .inr (.inl (fun _ => 0)))), ((a 0), f_x a), ((a 8), f_chip a), ((a 3), f_rows a), ((a 4), f_words a), ((a 38), .inl (g 1, 12, .inr (.inl (fun _ => 0)))), ((a 39), .inl (g 1, 12, .inr (.inl (fun _ => 0)))), ((a 1), f_net a), ((a 2), f_book a)] s.heap.size) [(h0, .inl (g 1, 1, .inr (.inl (fun _ => 0)))), ((a 0), f_x a), ((a 8), f_chip a), ((a 3), f_rows a), ((a 4), f_words a), ((a 38), .inl (g 1, 12, .inr (.inl (fun _ => 0)))), ((a 39), .inl (g 1, 12, .inr (.inl (fun _ => 0)))), ((a 1), f_net a), ((a 2), f_book a)] := hD0.self
  have hP : va_P D vwCl [(h0, .inl (g 1, 1, .inr (.inl (fun _ => 0)))), ((a 0), f_x a), ((a 8), f_chip a), ((a 3), f_rows a), ((a 4), f_words a), ((a 38), .inl (g 1, 12, .inr (.inl (fun _ => 0)))), ((a 39), .inl (g 1, 12, .inr (.inl (fun _ => 0)))), ((a 1), f_net a), ((a 2), f_book a)] s.heap := hP0
  have hl : lv_has ls 4 [(0, .ref (a 0)), (1, .int p0), (2, .ref h0)] := hl
  refine lv_aload_n hx hb dL_candidate_0 rfl (lv_at hl 2 rfl) ?_
  refine lv_iconst (v := 0) hx hb dL_candidate_1 (by decide) ?_
  refine lv_aload_n hx hb dL_candidate_2 rfl (lv_at hl 0 rfl) ?_
  refine lv_iload_n hx hb dL_candidate_3 rfl (lv_at hl 1 rfl) ?_
  have hPc : va_P D vwCl [((a 0), f_x a), ((a 8), f_chip a), ((a 3), f_rows a), ((a 4), f_words a), ((a 38), .inl (g 1, 12, .inr (.inl (fun _ => 0)))), ((a 39), .inl (g 1, 12, .inr (.inl (fun _ => 0)))), ((a 1), f_net a), ((a 2), f_book a)] _ := hP.sub (ws' := [((a 0), f_x a), ((a 8), f_chip a), ((a 3), f_rows a), ((a 4), f_words a), ((a 38), .inl (g 1, 12, .inr (.inl (fun _ => 0)))), ((a 39), .inl (g 1, 12, .inr (.inl (fun _ => 0)))), ((a 1), f_net a), ((a 2), f_book a)]) [1, 2, 3, 4, 5, 6, 7, 8] rfl
  have hDc : va_D (fun q => z0 ≤ q) [((a 0), f_x a), ((a 8), f_chip a), ((a 3), f_rows a), ((a 4), f_words a), ((a 38), .inl (g 1, 12, .inr (.inl (fun _ => 0)))), ((a 39), .inl (g 1, 12, .inr (.inl (fun _ => 0)))), ((a 1), f_net a), ((a 2), f_book a)] := (hD.to hAz).pick (ws' := [((a 0), f_x a), ((a 8), f_chip a), ((a 3), f_rows a), ((a 4), f_words a), ((a 38), .inl (g 1, 12, .inr (.inl (fun _ => 0)))), ((a 39), .inl (g 1, 12, .inr (.inl (fun _ => 0)))), ((a 1), f_net a), ((a 2), f_book a)]) [1, 2, 3, 4, 5, 6, 7, 8] (by decide) rfl
  have hFc := va_free (wc := [((a 0), f_x a), ((a 8), f_chip a), ((a 3), f_rows a), ((a 4), f_words a), ((a 38), .inl (g 1, 12, .inr (.inl (fun _ => 0)))), ((a 39), .inl (g 1, 12, .inr (.inl (fun _ => 0)))), ((a 1), f_net a), ((a 2), f_book a)]) hD hS hA [1, 2, 3, 4, 5, 6, 7, 8] rfl
  refine vx_calli (vx_runV (As := [.int p0]) (rest := [.int 0, .ref h0]) ⟨hx, hb, hml, hown, ht⟩ (k_X11_candidate l hfl D g z0 _ a p0) (cwV 1 ht (gV w_564 w_566 w_567 w_31 w_565) rfl rfl rfl (by decide +kernel) (le2 rfl rfl)) ⟨PP.blind, va_recv hK.1 hP (ci := 17) (q0 := 1) rfl rfl, PP.mk' hK hZ hz hAz hS hPc hDc⟩ rfl rfl hl.1 rfl (lv_room (Nat.le_of_ble_eq_true rfl)) dL_candidate_4 (le2 rfl rfl)) hS (fun q _ h => hFc q h) hFc (fun q _ h => hFc q h) (fun E ce q9 u t H locs ht1 hvm hw hB hz1 hk1 hS hcell hv9 hcl => ?_) (fun r u t H locs ht1 hvm hw hB hz1 hk1 hS => ?_)
  · obtain ⟨hP, hD⟩ := va_join (wr := [(h0, .inl (g 1, 1, .inr (.inl (fun _ => 0))))]) (w1 := []) hP hD [1, 2, 3, 4, 5, 6, 7, 8] [0] rfl rfl (by decide) (by decide) hk1 hFc nil_P nil_D
    have hP : va_P D vwCl [(h0, .inl (g 1, 1, .inr (.inl (fun _ => 0))))] H := hP
    have hD : va_D (va_A [(h0, .inl (g 1, 1, .inr (.inl (fun _ => 0)))), ((a 0), f_x a), ((a 8), f_chip a), ((a 3), f_rows a), ((a 4), f_words a), ((a 38), .inl (g 1, 12, .inr (.inl (fun _ => 0)))), ((a 39), .inl (g 1, 12, .inr (.inl (fun _ => 0)))), ((a 1), f_net a), ((a 2), f_book a)] s.heap.size) [(h0, .inl (g 1, 1, .inr (.inl (fun _ => 0))))] := hD
    obtain ⟨rfl, hB⟩ := hB
    refine vx_catch hown [] ⟨0, 9, 12, 86⟩ [] (htab.trans rfl) (fun _ h9 => absurd h9 List.not_mem_nil) (by decide) (by decide) (ht _ w_568) (hK.2.2.use w_569) hcell hv9 hcl ?_
    refine W.eq (g2 := F0 m 12 ls [.ref q9]) rfl ?_
    refine lv_astore_n (lv' := [(3, .ref q9), (0, .ref (a 0)), (1, .int p0), (2, .ref h0)]) hx hb dL_candidate_12 rfl hl (by decide) rfl (fun ls hl => ?_)
    refine lv_iconst (v := 1) hx hb dL_candidate_13 (by decide) ?_
    have hP9 := hP.sub (ws' := [(h0, .inl (g 1, 1, .inr (.inl (fun _ => 0))))]) [0] rfl
    have hD9 := hD.sub (ws' := [(h0, .inl (g 1, 1, .inr (.inl (fun _ => 0))))]) [0] (by decide) rfl
    refine W.widen (k := 1) (n := 6) (Nat.le_of_ble_eq_true rfl) (Nat.le_of_ble_eq_true rfl) ?_
    exact W.iret (v := 1) hx hb hr (fun t ht9 hW9 => ⟨⟨1, (), rfl, ⟨rfl, trivial⟩, ⟨(by rw [ht9]; exact hP9), hD9⟩⟩, hS.F ht9⟩) hS.2.2 dL_candidate_14 hlocks
  · exact hw.elim
set_option maxHeartbeats 4000000 in
set_option maxRecDepth 100000 in
theorem k_L_cell (l : Launch) (D : va_G) (g : Nat → ClassId) (z0 sz : Nat) (a : Nat → Nat) (h0 : Nat) : Met l yL_cell (.codeWith yL_cell cL_cell 3 (some .int) [(0, 8, 11, 13), (0, 8, 14, 15)] :: TG) (rmk 3 0 0 63) (va_Pc [.ref (a 0), .ref h0] (PP D g z0 sz [(h0, .inl (g 1, 1, .inr (.inl (fun _ => 0)))), ((a 0), f_x a), ((a 1), f_net a), ((a 12), .inl (g 2, 40, .inl (fun _ => 0))), ((a 19), .inl (g 1, 40, .inr (.inl (fun _ => 0)))), ((a 18), .inl (g 0, 40, .inl (fun _ => (-1)))), ((a 20), .inl (g 0, 12, .inl (fun _ => 0)))])) (va_Qi (fun (r : Int32) (u : Unit) => (r = 0) ∧ True) (fun (u : Unit) (t : State) => va_P D vwCl [(h0, .inl (g 1, 1, .inr (.inl (fun _ => 0))))] t.heap ∧ va_D (va_A [(h0, .inl (g 1, 1, .inr (.inl (fun _ => 0)))), ((a 0), f_x a), ((a 1), f_net a), ((a 12), .inl (g 2, 40, .inl (fun _ => 0))), ((a 19), .inl (g 1, 40, .inr (.inl (fun _ => 0)))), ((a 18), .inl (g 0, 40, .inl (fun _ => (-1)))), ((a 20), .inl (g 0, 12, .inl (fun _ => 0)))] sz) [(h0, .inl (g 1, 1, .inr (.inl (fun _ => 0))))]) (va_A [(h0, .inl (g 1, 1, .inr (.inl (fun _ => 0)))), ((a 0), f_x a), ((a 1), f_net a), ((a 12), .inl (g 2, 40, .inl (fun _ => 0))), ((a 19), .inl (g 1, 40, .inr (.inl (fun _ => 0)))), ((a 18), .inl (g 0, 40, .inl (fun _ => (-1)))), ((a 20), .inl (g 0, 12, .inl (fun _ => 0)))] sz)) 0 0 (va_A [(h0, .inl (g 1, 1, .inr (.inl (fun _ => 0)))), ((a 0), f_x a), ((a 1), f_net a), ((a 12), .inl (g 2, 40, .inl (fun _ => 0))), ((a 19), .inl (g 1, 40, .inr (.inl (fun _ => 0)))), ((a 18), .inl (g 0, 40, .inl (fun _ => (-1)))), ((a 20), .inl (g 0, 12, .inl (fun _ => 0)))] sz) := by
  refine metW0 (cc := cL_cell) (n := 3) (hh := [(0, 8, 11, 13), (0, 8, 14, 15)]) (by decide) (Nat.le_of_ble_eq_true rfl) ?_
  intro p e s m args below meth c hx hb hr hml htab hown ht hlocks hnm hP0 hD0 hK hZ hsz hz ls hl
  subst hsz
  have hA : ∀ q : Nat, s.heap.size ≤ q → va_A [(h0, .inl (g 1, 1, .inr (.inl (fun _ => 0)))), ((a 0), f_x a), ((a 1), f_net a), ((a 12), .inl (g 2, 40, .inl (fun _ => 0))), ((a 19), .inl (g 1, 40, .inr (.inl (fun _ => 0)))), ((a 18), .inl (g 0, 40, .inl (fun _ => (-1)))), ((a 20), .inl (g 0, 12, .inl (fun _ => 0)))] s.heap.size q := Anw
  have hAz : ∀ q, va_A [(h0, .inl (g 1, 1, .inr (.inl (fun _ => 0)))), ((a 0), f_x a), ((a 1), f_net a), ((a 12), .inl (g 2, 40, .inl (fun _ => 0))), ((a 19), .inl (g 1, 40, .inr (.inl (fun _ => 0)))), ((a 18), .inl (g 0, 40, .inl (fun _ => (-1)))), ((a 20), .inl (g 0, 12, .inl (fun _ => 0)))] s.heap.size q → z0 ≤ q := Awz hz hD0
  have hS : va_S (va_A [(h0, .inl (g 1, 1, .inr (.inl (fun _ => 0)))), ((a 0), f_x a), ((a 1), f_net a), ((a 12), .inl (g 2, 40, .inl (fun _ => 0))), ((a 19), .inl (g 1, 40, .inr (.inl (fun _ => 0)))), ((a 18), .inl (g 0, 40, .inl (fun _ => (-1)))), ((a 20), .inl (g 0, 12, .inl (fun _ => 0)))] s.heap.size) s.heap s.heap [] := va_S.rf
  have hD : va_D (va_A [(h0, .inl (g 1, 1, .inr (.inl (fun _ => 0)))), ((a 0), f_x a), ((a 1), f_net a), ((a 12), .inl (g 2, 40, .inl (fun _ => 0))), ((a 19), .inl (g 1, 40, .inr (.inl (fun _ => 0)))), ((a 18), .inl (g 0, 40, .inl (fun _ => (-1)))), ((a 20), .inl (g 0, 12, .inl (fun _ => 0)))] s.heap.size) [(h0, .inl (g 1, 1, .inr (.inl (fun _ => 0)))), ((a 0), f_x a), ((a 1), f_net a), ((a 12), .inl (g 2, 40, .inl (fun _ => 0))), ((a 19), .inl (g 1, 40, .inr (.inl (fun _ => 0)))), ((a 18), .inl (g 0, 40, .inl (fun _ => (-1)))), ((a 20), .inl (g 0, 12, .inl (fun _ => 0)))] := hD0.self
  have hP : va_P D vwCl [(h0, .inl (g 1, 1, .inr (.inl (fun _ => 0)))), ((a 0), f_x a), ((a 1), f_net a), ((a 12), .inl (g 2, 40, .inl (fun _ => 0))), ((a 19), .inl (g 1, 40, .inr (.inl (fun _ => 0)))), ((a 18), .inl (g 0, 40, .inl (fun _ => (-1)))), ((a 20), .inl (g 0, 12, .inl (fun _ => 0)))] s.heap := hP0
  have hl : lv_has ls 3 [(0, .ref (a 0)), (1, .ref h0)] := hl
  refine lv_aload_n hx hb dL_cell_0 rfl (lv_at hl 1 rfl) ?_
  refine lv_iconst (v := 0) hx hb dL_cell_1 (by decide) ?_
  refine lv_aload_n hx hb dL_cell_2 rfl (lv_at hl 0 rfl) ?_
  have hPc : va_P D vwCl [((a 0), f_x a), ((a 1), f_net a), ((a 12), .inl (g 2, 40, .inl (fun _ => 0))), ((a 19), .inl (g 1, 40, .inr (.inl (fun _ => 0)))), ((a 18), .inl (g 0, 40, .inl (fun _ => (-1)))), ((a 20), .inl (g 0, 12, .inl (fun _ => 0)))] _ := hP.sub (ws' := [((a 0), f_x a), ((a 1), f_net a), ((a 12), .inl (g 2, 40, .inl (fun _ => 0))), ((a 19), .inl (g 1, 40, .inr (.inl (fun _ => 0)))), ((a 18), .inl (g 0, 40, .inl (fun _ => (-1)))), ((a 20), .inl (g 0, 12, .inl (fun _ => 0)))]) [1, 2, 3, 4, 5, 6] rfl
  have hDc : va_D (fun q => z0 ≤ q) [((a 0), f_x a), ((a 1), f_net a), ((a 12), .inl (g 2, 40, .inl (fun _ => 0))), ((a 19), .inl (g 1, 40, .inr (.inl (fun _ => 0)))), ((a 18), .inl (g 0, 40, .inl (fun _ => (-1)))), ((a 20), .inl (g 0, 12, .inl (fun _ => 0)))] := (hD.to hAz).pick (ws' := [((a 0), f_x a), ((a 1), f_net a), ((a 12), .inl (g 2, 40, .inl (fun _ => 0))), ((a 19), .inl (g 1, 40, .inr (.inl (fun _ => 0)))), ((a 18), .inl (g 0, 40, .inl (fun _ => (-1)))), ((a 20), .inl (g 0, 12, .inl (fun _ => 0)))]) [1, 2, 3, 4, 5, 6] (by decide) rfl
  have hFc := va_free (wc := [((a 0), f_x a), ((a 1), f_net a), ((a 12), .inl (g 2, 40, .inl (fun _ => 0))), ((a 19), .inl (g 1, 40, .inr (.inl (fun _ => 0)))), ((a 18), .inl (g 0, 40, .inl (fun _ => (-1)))), ((a 20), .inl (g 0, 12, .inl (fun _ => 0)))]) hD hS hA [1, 2, 3, 4, 5, 6] rfl
  refine va_calli (va_runV (As := []) (rest := [.int 0, .ref h0]) ⟨hx, hb, hml, hown, ht⟩ (k_X11_cell l D g z0 _ a) (cwV 0 ht (gV w_570 w_572 w_573 w_31 w_571) rfl rfl rfl (by decide +kernel) (le2 rfl rfl)) ⟨PP.blind, va_recv hK.1 hP (ci := 17) (q0 := 1) rfl rfl, PP.mk' hK hZ hz hAz hS hPc hDc⟩ rfl rfl hl.1 rfl (lv_room (Nat.le_of_ble_eq_true rfl)) dL_cell_3 (le2 rfl rfl)) hS (fun q _ h => hFc q h) hFc (fun r u t H locs ht1 hvm hw hB hz1 hk1 hS => ?_)
  obtain ⟨rfl, hw⟩ := hw
  obtain ⟨hP1, hD1⟩ := hB
  rw [ht1] at hP1
  obtain ⟨hP, hD⟩ := va_join (wr := [(h0, .inl (g 1, 1, .inr (.inl (fun _ => 0))))]) (w1 := []) hP hD [1, 2, 3, 4, 5, 6] [0] rfl rfl (by decide) (by decide) hk1 hFc hP1 hD1
  have hP : va_P D vwCl [(h0, .inl (g 1, 1, .inr (.inl (fun _ => 0))))] H := hP
  have hD : va_D (va_A [(h0, .inl (g 1, 1, .inr (.inl (fun _ => 0)))), ((a 0), f_x a), ((a 1), f_net a), ((a 12), .inl (g 2, 40, .inl (fun _ => 0))), ((a 19), .inl (g 1, 40, .inr (.inl (fun _ => 0)))), ((a 18), .inl (g 0, 40, .inl (fun _ => (-1)))), ((a 20), .inl (g 0, 12, .inl (fun _ => 0)))] s.heap.size) [(h0, .inl (g 1, 1, .inr (.inl (fun _ => 0))))] := hD
  refine lv_i2l (v := 0) hx hb dL_cell_6 (by decide) ?_
  refine va_last hx hb hK.1 hP hD hS 0 1 rfl rfl (by unfold vp_in; decide) dL_cell_7 (fun H locs hP hD hS => ?_)
  have hP : va_P D vwCl [(h0, .inl (g 1, 1, .inr (.inl (vp_updL (fun _ => 0) (0 : Int32).toNatClampNeg 0))))] H := hP
  have hD : va_D (va_A [(h0, .inl (g 1, 1, .inr (.inl (fun _ => 0)))), ((a 0), f_x a), ((a 1), f_net a), ((a 12), .inl (g 2, 40, .inl (fun _ => 0))), ((a 19), .inl (g 1, 40, .inr (.inl (fun _ => 0)))), ((a 18), .inl (g 0, 40, .inl (fun _ => (-1)))), ((a 20), .inl (g 0, 12, .inl (fun _ => 0)))] s.heap.size) [(h0, .inl (g 1, 1, .inr (.inl (vp_updL (fun _ => 0) (0 : Int32).toNatClampNeg 0))))] := hD
  have hP := one_up (v := 0) hP 0 rfl rfl
  have hD := va_D.set (p := 0) (e := .inl (g 1, 1, .inr (.inl (fun _ => 0)))) hD rfl
  have hP : va_P D vwCl [(h0, .inl (g 1, 1, .inr (.inl (fun _ => 0))))] H := hP
  have hD : va_D (va_A [(h0, .inl (g 1, 1, .inr (.inl (fun _ => 0)))), ((a 0), f_x a), ((a 1), f_net a), ((a 12), .inl (g 2, 40, .inl (fun _ => 0))), ((a 19), .inl (g 1, 40, .inr (.inl (fun _ => 0)))), ((a 18), .inl (g 0, 40, .inl (fun _ => (-1)))), ((a 20), .inl (g 0, 12, .inl (fun _ => 0)))] s.heap.size) [(h0, .inl (g 1, 1, .inr (.inl (fun _ => 0))))] := hD
  refine lv_goto (tgt := 17) hx hb dL_cell_8 (by decide) ?_
  refine lv_iconst (v := 0) hx hb dL_cell_17 (by decide) ?_
  have hP9 := hP.sub (ws' := [(h0, .inl (g 1, 1, .inr (.inl (fun _ => 0))))]) [0] rfl
  have hD9 := hD.sub (ws' := [(h0, .inl (g 1, 1, .inr (.inl (fun _ => 0))))]) [0] (by decide) rfl
  refine W.widen (k := 0) (n := 0) (Nat.le_of_ble_eq_true rfl) (Nat.le_of_ble_eq_true rfl) ?_
  exact W.iret (v := 0) hx hb hr (fun t ht9 hW9 => ⟨⟨0, (), rfl, ⟨rfl, trivial⟩, ⟨(by rw [ht9]; exact hP9), hD9⟩⟩, hS.F ht9⟩) hS.2.2 dL_cell_18 hlocks
set_option maxHeartbeats 4000000 in
set_option maxRecDepth 100000 in
theorem k_L_chance (l : Launch) (hfl : l.stackTraces = false) (D : va_G) (g : Nat → ClassId) (z0 sz : Nat) (a : Nat → Nat) (p0 : Int32) (p1 : Int32) (h0 : Nat) : Met l yL_chance (.codeWith yL_chance cL_chance 5 (some .int) [(0, 10, 13, 24), (0, 10, 17, 13)] :: TG) (rmk 8 3 18 128) (va_Pc [.ref (a 0), .int p0, .int p1, .ref h0] (PP D g z0 sz [(h0, .inl (g 1, 1, .inr (.inl (fun _ => 0)))), ((a 0), f_x a), ((a 1), f_net a)])) (va_Qi (fun (r : Int32) (u : Unit) => ((r = 1) ∧ ((p0 < 0) ∨ ((¬ p0 < 0) ∧ (¬ p0 ≤ 65535)) ∨ ((¬ p0 < 0) ∧ (p0 ≤ 65535) ∧ (p1 < 1)) ∨ ((¬ p0 < 0) ∧ (p0 ≤ 65535) ∧ (¬ p1 < 1) ∧ (¬ p1 ≤ 200)))) ∨ ((r = 2) ∧ ((¬ p0 < 0) ∧ (p0 ≤ 65535) ∧ (¬ p1 < 1) ∧ (p1 ≤ 200)))) (fun (u : Unit) (t : State) => va_P D vwCl [(h0, .inl (g 1, 1, .inr (.inl (fun _ => 0))))] t.heap ∧ va_D (va_A [(h0, .inl (g 1, 1, .inr (.inl (fun _ => 0)))), ((a 0), f_x a), ((a 1), f_net a)] sz) [(h0, .inl (g 1, 1, .inr (.inl (fun _ => 0))))]) (va_A [(h0, .inl (g 1, 1, .inr (.inl (fun _ => 0)))), ((a 0), f_x a), ((a 1), f_net a)] sz)) 3 18 (va_A [(h0, .inl (g 1, 1, .inr (.inl (fun _ => 0)))), ((a 0), f_x a), ((a 1), f_net a)] sz) := by
  refine metW0 (cc := cL_chance) (n := 5) (hh := [(0, 10, 13, 24), (0, 10, 17, 13)]) (by decide) (Nat.le_of_ble_eq_true rfl) ?_
  intro p e s m args below meth c hx hb hr hml htab hown ht hlocks hnm hP0 hD0 hK hZ hsz hz ls hl
  subst hsz
  have hA : ∀ q : Nat, s.heap.size ≤ q → va_A [(h0, .inl (g 1, 1, .inr (.inl (fun _ => 0)))), ((a 0), f_x a), ((a 1), f_net a)] s.heap.size q := Anw
  have hAz : ∀ q, va_A [(h0, .inl (g 1, 1, .inr (.inl (fun _ => 0)))), ((a 0), f_x a), ((a 1), f_net a)] s.heap.size q → z0 ≤ q := Awz hz hD0
  have hS : va_S (va_A [(h0, .inl (g 1, 1, .inr (.inl (fun _ => 0)))), ((a 0), f_x a), ((a 1), f_net a)] s.heap.size) s.heap s.heap [] := va_S.rf
  have hD : va_D (va_A [(h0, .inl (g 1, 1, .inr (.inl (fun _ => 0)))), ((a 0), f_x a), ((a 1), f_net a)] s.heap.size) [(h0, .inl (g 1, 1, .inr (.inl (fun _ => 0)))), ((a 0), f_x a), ((a 1), f_net a)] := hD0.self
  have hP : va_P D vwCl [(h0, .inl (g 1, 1, .inr (.inl (fun _ => 0)))), ((a 0), f_x a), ((a 1), f_net a)] s.heap := hP0
  have hl : lv_has ls 5 [(0, .ref (a 0)), (1, .int p0), (2, .int p1), (3, .ref h0)] := hl
  refine lv_aload_n hx hb dL_chance_0 rfl (lv_at hl 3 rfl) ?_
  refine lv_iconst (v := 0) hx hb dL_chance_1 (by decide) ?_
  refine lv_aload_n hx hb dL_chance_2 rfl (lv_at hl 0 rfl) ?_
  refine lv_iload_n hx hb dL_chance_3 rfl (lv_at hl 1 rfl) ?_
  refine lv_iload_n hx hb dL_chance_4 rfl (lv_at hl 2 rfl) ?_
  have hPc : va_P D vwCl [((a 0), f_x a), ((a 1), f_net a)] _ := hP.sub (ws' := [((a 0), f_x a), ((a 1), f_net a)]) [1, 2] rfl
  have hDc : va_D (fun q => z0 ≤ q) [((a 0), f_x a), ((a 1), f_net a)] := (hD.to hAz).pick (ws' := [((a 0), f_x a), ((a 1), f_net a)]) [1, 2] (by decide) rfl
  have hFc := AnA (ws := [(h0, .inl (g 1, 1, .inr (.inl (fun _ => 0)))), ((a 0), f_x a), ((a 1), f_net a)]) hS.1
  refine vx_calli (vx_runV (As := [.int p0, .int p1]) (rest := [.int 0, .ref h0]) ⟨hx, hb, hml, hown, ht⟩ (k_X11_chance l hfl D g z0 _ a p0 p1) (cwV 2 ht (gV w_574 w_576 w_577 w_31 w_575) rfl rfl rfl (by decide +kernel) (le2 rfl rfl)) ⟨PP.blind, va_recv hK.1 hP (ci := 17) (q0 := 1) rfl rfl, PP.mk' hK hZ hz hAz hS hPc hDc⟩ rfl rfl hl.1 rfl (lv_room (Nat.le_of_ble_eq_true rfl)) dL_chance_5 (le2 rfl rfl)) hS (fun q _ h => hFc q h) hFc (fun q _ h => hFc q h) (fun E ce q9 u t H locs ht1 hvm hw hB hz1 hk1 hS hcell hv9 hcl => ?_) (fun r u t H locs ht1 hvm hw hB hz1 hk1 hS => ?_)
  · have hP := ro1 hP hk1
    rcases hB with hB | hB
    · obtain ⟨rfl, hB⟩ := hB
      rcases hB with hB | hB | hB | hB
      · have c_1 := hB
        refine vx_catch hown [] ⟨0, 10, 13, 24⟩ [⟨0, 10, 17, 13⟩] (htab.trans rfl) (fun _ h9 => absurd h9 List.not_mem_nil) (by decide) (by decide) (ht _ w_540) (hK.2.2.use w_541) hcell hv9 hcl ?_
        refine W.eq (g2 := F0 m 13 ls [.ref q9]) rfl ?_
        refine lv_astore (lv' := [(4, .ref q9), (0, .ref (a 0)), (1, .int p0), (2, .int p1), (3, .ref h0)]) hx hb dL_chance_13 hl (by decide) rfl (fun ls hl => ?_)
        refine lv_iconst (v := 1) hx hb dL_chance_15 (by decide) ?_
        have hP9 := hP.sub (ws' := [(h0, .inl (g 1, 1, .inr (.inl (fun _ => 0))))]) [0] rfl
        have hD9 := hD.sub (ws' := [(h0, .inl (g 1, 1, .inr (.inl (fun _ => 0))))]) [0] (by decide) rfl
        refine W.widen (k := 3) (n := 18) (Nat.le_of_ble_eq_true rfl) (Nat.le_of_ble_eq_true rfl) ?_
        exact W.iret (v := 1) hx hb hr (fun t ht9 hW9 => ⟨⟨1, (), rfl, (Or.inl ⟨rfl, (Or.inl c_1)⟩), ⟨(by rw [ht9]; exact hP9), hD9⟩⟩, hS.F ht9⟩) hS.2.2 dL_chance_16 hlocks
      · obtain ⟨c_2, c_3⟩ := hB
        refine vx_catch hown [] ⟨0, 10, 13, 24⟩ [⟨0, 10, 17, 13⟩] (htab.trans rfl) (fun _ h9 => absurd h9 List.not_mem_nil) (by decide) (by decide) (ht _ w_540) (hK.2.2.use w_541) hcell hv9 hcl ?_
        refine W.eq (g2 := F0 m 13 ls [.ref q9]) rfl ?_
        refine lv_astore (lv' := [(4, .ref q9), (0, .ref (a 0)), (1, .int p0), (2, .int p1), (3, .ref h0)]) hx hb dL_chance_13 hl (by decide) rfl (fun ls hl => ?_)
        refine lv_iconst (v := 1) hx hb dL_chance_15 (by decide) ?_
        have hP9 := hP.sub (ws' := [(h0, .inl (g 1, 1, .inr (.inl (fun _ => 0))))]) [0] rfl
        have hD9 := hD.sub (ws' := [(h0, .inl (g 1, 1, .inr (.inl (fun _ => 0))))]) [0] (by decide) rfl
        refine W.widen (k := 3) (n := 18) (Nat.le_of_ble_eq_true rfl) (Nat.le_of_ble_eq_true rfl) ?_
        exact W.iret (v := 1) hx hb hr (fun t ht9 hW9 => ⟨⟨1, (), rfl, (Or.inl ⟨rfl, (Or.inr (Or.inl ⟨c_2, c_3⟩))⟩), ⟨(by rw [ht9]; exact hP9), hD9⟩⟩, hS.F ht9⟩) hS.2.2 dL_chance_16 hlocks
      · obtain ⟨c_4, c_5, c_6⟩ := hB
        refine vx_catch hown [] ⟨0, 10, 13, 24⟩ [⟨0, 10, 17, 13⟩] (htab.trans rfl) (fun _ h9 => absurd h9 List.not_mem_nil) (by decide) (by decide) (ht _ w_540) (hK.2.2.use w_541) hcell hv9 hcl ?_
        refine W.eq (g2 := F0 m 13 ls [.ref q9]) rfl ?_
        refine lv_astore (lv' := [(4, .ref q9), (0, .ref (a 0)), (1, .int p0), (2, .int p1), (3, .ref h0)]) hx hb dL_chance_13 hl (by decide) rfl (fun ls hl => ?_)
        refine lv_iconst (v := 1) hx hb dL_chance_15 (by decide) ?_
        have hP9 := hP.sub (ws' := [(h0, .inl (g 1, 1, .inr (.inl (fun _ => 0))))]) [0] rfl
        have hD9 := hD.sub (ws' := [(h0, .inl (g 1, 1, .inr (.inl (fun _ => 0))))]) [0] (by decide) rfl
        refine W.widen (k := 3) (n := 18) (Nat.le_of_ble_eq_true rfl) (Nat.le_of_ble_eq_true rfl) ?_
        exact W.iret (v := 1) hx hb hr (fun t ht9 hW9 => ⟨⟨1, (), rfl, (Or.inl ⟨rfl, (Or.inr (Or.inr (Or.inl ⟨c_4, c_5, c_6⟩)))⟩), ⟨(by rw [ht9]; exact hP9), hD9⟩⟩, hS.F ht9⟩) hS.2.2 dL_chance_16 hlocks
      · obtain ⟨c_7, c_8, c_9, c_10⟩ := hB
        refine vx_catch hown [] ⟨0, 10, 13, 24⟩ [⟨0, 10, 17, 13⟩] (htab.trans rfl) (fun _ h9 => absurd h9 List.not_mem_nil) (by decide) (by decide) (ht _ w_540) (hK.2.2.use w_541) hcell hv9 hcl ?_
        refine W.eq (g2 := F0 m 13 ls [.ref q9]) rfl ?_
        refine lv_astore (lv' := [(4, .ref q9), (0, .ref (a 0)), (1, .int p0), (2, .int p1), (3, .ref h0)]) hx hb dL_chance_13 hl (by decide) rfl (fun ls hl => ?_)
        refine lv_iconst (v := 1) hx hb dL_chance_15 (by decide) ?_
        have hP9 := hP.sub (ws' := [(h0, .inl (g 1, 1, .inr (.inl (fun _ => 0))))]) [0] rfl
        have hD9 := hD.sub (ws' := [(h0, .inl (g 1, 1, .inr (.inl (fun _ => 0))))]) [0] (by decide) rfl
        refine W.widen (k := 3) (n := 18) (Nat.le_of_ble_eq_true rfl) (Nat.le_of_ble_eq_true rfl) ?_
        exact W.iret (v := 1) hx hb hr (fun t ht9 hW9 => ⟨⟨1, (), rfl, (Or.inl ⟨rfl, (Or.inr (Or.inr (Or.inr ⟨c_7, c_8, c_9, c_10⟩)))⟩), ⟨(by rw [ht9]; exact hP9), hD9⟩⟩, hS.F ht9⟩) hS.2.2 dL_chance_16 hlocks
    · obtain ⟨rfl, hB⟩ := hB
      obtain ⟨c_11, c_12, c_13, c_14⟩ := hB
      refine vx_catch hown [⟨0, 10, 13, 24⟩] ⟨0, 10, 17, 13⟩ [] (htab.trans rfl) (List.forall_mem_cons.mpr ⟨Or.inr ⟨by decide, "java/lang/IllegalArgumentException", ht _ w_540, hK.2.2.2.2.1 _ (List.mem_of_getElem? (i := 12) rfl)⟩, (fun _ h9 => absurd h9 List.not_mem_nil)⟩) (by decide) (by decide) (ht _ w_554) (hK.2.2.use w_555) hcell hv9 hcl ?_
      refine W.eq (g2 := F0 m 17 ls [.ref q9]) rfl ?_
      refine lv_astore (lv' := [(4, .ref q9), (0, .ref (a 0)), (1, .int p0), (2, .int p1), (3, .ref h0)]) hx hb dL_chance_17 hl (by decide) rfl (fun ls hl => ?_)
      refine lv_iconst (v := 2) hx hb dL_chance_19 (by decide) ?_
      have hP9 := hP.sub (ws' := [(h0, .inl (g 1, 1, .inr (.inl (fun _ => 0))))]) [0] rfl
      have hD9 := hD.sub (ws' := [(h0, .inl (g 1, 1, .inr (.inl (fun _ => 0))))]) [0] (by decide) rfl
      refine W.widen (k := 3) (n := 18) (Nat.le_of_ble_eq_true rfl) (Nat.le_of_ble_eq_true rfl) ?_
      exact W.iret (v := 2) hx hb hr (fun t ht9 hW9 => ⟨⟨2, (), rfl, (Or.inr ⟨rfl, ⟨c_11, c_12, c_13, c_14⟩⟩), ⟨(by rw [ht9]; exact hP9), hD9⟩⟩, hS.F ht9⟩) hS.2.2 dL_chance_20 hlocks
  · exact hw.elim
set_option maxHeartbeats 4000000 in
set_option maxRecDepth 100000 in
theorem k_L_close (l : Launch) (hfl : l.stackTraces = false) (D : va_G) (g : Nat → ClassId) (z0 sz : Nat) (a : Nat → Nat) (h0 : Nat) : Met l yL_close (.codeWith yL_close cL_close 3 (some .int) [(0, 8, 11, 13)] :: TG) (rmk 7 1 6 101) (va_Pc [.ref (a 0), .ref h0] (PP D g z0 sz [(h0, .inl (g 1, 1, .inr (.inl (fun _ => 0)))), ((a 0), f_x a), ((a 1), f_net a)])) (va_Qi (fun (r : Int32) (u : Unit) => (r = 1) ∧ True) (fun (u : Unit) (t : State) => va_P D vwCl [(h0, .inl (g 1, 1, .inr (.inl (fun _ => 0))))] t.heap ∧ va_D (va_A [(h0, .inl (g 1, 1, .inr (.inl (fun _ => 0)))), ((a 0), f_x a), ((a 1), f_net a)] sz) [(h0, .inl (g 1, 1, .inr (.inl (fun _ => 0))))]) (va_A [(h0, .inl (g 1, 1, .inr (.inl (fun _ => 0)))), ((a 0), f_x a), ((a 1), f_net a)] sz)) 1 6 (va_A [(h0, .inl (g 1, 1, .inr (.inl (fun _ => 0)))), ((a 0), f_x a), ((a 1), f_net a)] sz) := by
  refine metW0 (cc := cL_close) (n := 3) (hh := [(0, 8, 11, 13)]) (by decide) (Nat.le_of_ble_eq_true rfl) ?_
  intro p e s m args below meth c hx hb hr hml htab hown ht hlocks hnm hP0 hD0 hK hZ hsz hz ls hl
  subst hsz
  have hA : ∀ q : Nat, s.heap.size ≤ q → va_A [(h0, .inl (g 1, 1, .inr (.inl (fun _ => 0)))), ((a 0), f_x a), ((a 1), f_net a)] s.heap.size q := Anw
  have hAz : ∀ q, va_A [(h0, .inl (g 1, 1, .inr (.inl (fun _ => 0)))), ((a 0), f_x a), ((a 1), f_net a)] s.heap.size q → z0 ≤ q := Awz hz hD0
  have hS : va_S (va_A [(h0, .inl (g 1, 1, .inr (.inl (fun _ => 0)))), ((a 0), f_x a), ((a 1), f_net a)] s.heap.size) s.heap s.heap [] := va_S.rf
  have hD : va_D (va_A [(h0, .inl (g 1, 1, .inr (.inl (fun _ => 0)))), ((a 0), f_x a), ((a 1), f_net a)] s.heap.size) [(h0, .inl (g 1, 1, .inr (.inl (fun _ => 0)))), ((a 0), f_x a), ((a 1), f_net a)] := hD0.self
  have hP : va_P D vwCl [(h0, .inl (g 1, 1, .inr (.inl (fun _ => 0)))), ((a 0), f_x a), ((a 1), f_net a)] s.heap := hP0
  have hl : lv_has ls 3 [(0, .ref (a 0)), (1, .ref h0)] := hl
  refine lv_aload_n hx hb dL_close_0 rfl (lv_at hl 1 rfl) ?_
  refine lv_iconst (v := 0) hx hb dL_close_1 (by decide) ?_
  refine lv_aload_n hx hb dL_close_2 rfl (lv_at hl 0 rfl) ?_
  have hPc : va_P D vwCl [((a 0), f_x a), ((a 1), f_net a)] _ := hP.sub (ws' := [((a 0), f_x a), ((a 1), f_net a)]) [1, 2] rfl
  have hDc : va_D (fun q => z0 ≤ q) [((a 0), f_x a), ((a 1), f_net a)] := (hD.to hAz).pick (ws' := [((a 0), f_x a), ((a 1), f_net a)]) [1, 2] (by decide) rfl
  have hFc := AnA (ws := [(h0, .inl (g 1, 1, .inr (.inl (fun _ => 0)))), ((a 0), f_x a), ((a 1), f_net a)]) hS.1
  refine vx_calli (vx_runV (As := []) (rest := [.int 0, .ref h0]) ⟨hx, hb, hml, hown, ht⟩ (k_X11_close l hfl D g z0 _ a) (cwV 0 ht (gV w_578 w_580 w_581 w_31 w_579) rfl rfl rfl (by decide +kernel) (le2 rfl rfl)) ⟨PP.blind, va_recv hK.1 hP (ci := 17) (q0 := 1) rfl rfl, PP.mk' hK hZ hz hAz hS hPc hDc⟩ rfl rfl hl.1 rfl (lv_room (Nat.le_of_ble_eq_true rfl)) dL_close_3 (le2 rfl rfl)) hS (fun q _ h => hFc q h) hFc (fun q _ h => hFc q h) (fun E ce q9 u t H locs ht1 hvm hw hB hz1 hk1 hS hcell hv9 hcl => ?_) (fun r u t H locs ht1 hvm hw hB hz1 hk1 hS => ?_)
  · have hP := ro1 hP hk1
    obtain ⟨rfl, hB⟩ := hB
    refine vx_catch hown [] ⟨0, 8, 11, 13⟩ [] (htab.trans rfl) (fun _ h9 => absurd h9 List.not_mem_nil) (by decide) (by decide) (ht _ w_554) (hK.2.2.use w_555) hcell hv9 hcl ?_
    refine W.eq (g2 := F0 m 11 ls [.ref q9]) rfl ?_
    refine lv_astore_n (lv' := [(2, .ref q9), (0, .ref (a 0)), (1, .ref h0)]) hx hb dL_close_11 rfl hl (by decide) rfl (fun ls hl => ?_)
    refine lv_iconst (v := 1) hx hb dL_close_12 (by decide) ?_
    have hP9 := hP.sub (ws' := [(h0, .inl (g 1, 1, .inr (.inl (fun _ => 0))))]) [0] rfl
    have hD9 := hD.sub (ws' := [(h0, .inl (g 1, 1, .inr (.inl (fun _ => 0))))]) [0] (by decide) rfl
    refine W.widen (k := 1) (n := 6) (Nat.le_of_ble_eq_true rfl) (Nat.le_of_ble_eq_true rfl) ?_
    exact W.iret (v := 1) hx hb hr (fun t ht9 hW9 => ⟨⟨1, (), rfl, ⟨rfl, trivial⟩, ⟨(by rw [ht9]; exact hP9), hD9⟩⟩, hS.F ht9⟩) hS.2.2 dL_close_13 hlocks
  · exact hw.elim
set_option maxHeartbeats 4000000 in
set_option maxRecDepth 100000 in
theorem k_L_core (l : Launch) (hfl : l.stackTraces = false) (D : va_G) (g : Nat → ClassId) (z0 sz : Nat) (a : Nat → Nat) (p0 : Int32) (p1 : Int32) (p2 : Int32) (h0 : Nat) : Met l yL_core (.codeWith yL_core cL_core 6 (some .int) [(0, 12, 15, 24), (0, 12, 19, 15)] :: TG) (rmk 8 3 18 126) (va_Pc [.ref (a 0), .int p0, .int p1, .int p2, .ref h0] (PP D g z0 sz [(h0, .inl (g 1, 1, .inr (.inl (fun _ => 0)))), ((a 0), f_x a), ((a 11), f_cores a), ((a 63), .inl (g 0, 6, .inl (fun _ => 0))), ((a 64), .inl (g 0, 6, .inl (fun _ => 0))), ((a 65), .inl (g 0, 6, .inl (fun _ => 0)))])) (va_Qi (fun (r : Int32) (u : Unit) => ((r = 1) ∧ ((p0 < 1) ∨ ((¬ p0 < 1) ∧ (¬ p0 ≤ 999)) ∨ ((¬ p0 < 1) ∧ (p0 ≤ 999) ∧ (p1 < 1)) ∨ ((¬ p0 < 1) ∧ (p0 ≤ 999) ∧ (¬ p1 < 1) ∧ (¬ p1 ≤ 64)) ∨ ((¬ p0 < 1) ∧ (p0 ≤ 999) ∧ (¬ p1 < 1) ∧ (p1 ≤ 64) ∧ (p2 < 0)) ∨ ((¬ p0 < 1) ∧ (p0 ≤ 999) ∧ (¬ p1 < 1) ∧ (p1 ≤ 64) ∧ (¬ p2 < 0) ∧ (¬ p2 ≤ 999)))) ∨ ((r = 0) ∧ ((¬ p0 < 1) ∧ (p0 ≤ 999) ∧ (¬ p1 < 1) ∧ (p1 ≤ 64) ∧ (¬ p2 < 0) ∧ (p2 ≤ 999)))) (fun (u : Unit) (t : State) => va_P D vwCl [(h0, .inl (g 1, 1, .inr (.inl (fun _ => 0))))] t.heap ∧ va_D (va_A [(h0, .inl (g 1, 1, .inr (.inl (fun _ => 0)))), ((a 0), f_x a), ((a 11), f_cores a), ((a 63), .inl (g 0, 6, .inl (fun _ => 0))), ((a 64), .inl (g 0, 6, .inl (fun _ => 0))), ((a 65), .inl (g 0, 6, .inl (fun _ => 0)))] sz) [(h0, .inl (g 1, 1, .inr (.inl (fun _ => 0))))]) (va_A [(h0, .inl (g 1, 1, .inr (.inl (fun _ => 0)))), ((a 0), f_x a), ((a 11), f_cores a), ((a 63), .inl (g 0, 6, .inl (fun _ => 0))), ((a 64), .inl (g 0, 6, .inl (fun _ => 0))), ((a 65), .inl (g 0, 6, .inl (fun _ => 0)))] sz)) 3 18 (va_A [(h0, .inl (g 1, 1, .inr (.inl (fun _ => 0)))), ((a 0), f_x a), ((a 11), f_cores a), ((a 63), .inl (g 0, 6, .inl (fun _ => 0))), ((a 64), .inl (g 0, 6, .inl (fun _ => 0))), ((a 65), .inl (g 0, 6, .inl (fun _ => 0)))] sz) := by
  refine metW0 (cc := cL_core) (n := 6) (hh := [(0, 12, 15, 24), (0, 12, 19, 15)]) (by decide) (Nat.le_of_ble_eq_true rfl) ?_
  intro p e s m args below meth c hx hb hr hml htab hown ht hlocks hnm hP0 hD0 hK hZ hsz hz ls hl
  subst hsz
  have hA : ∀ q : Nat, s.heap.size ≤ q → va_A [(h0, .inl (g 1, 1, .inr (.inl (fun _ => 0)))), ((a 0), f_x a), ((a 11), f_cores a), ((a 63), .inl (g 0, 6, .inl (fun _ => 0))), ((a 64), .inl (g 0, 6, .inl (fun _ => 0))), ((a 65), .inl (g 0, 6, .inl (fun _ => 0)))] s.heap.size q := Anw
  have hAz : ∀ q, va_A [(h0, .inl (g 1, 1, .inr (.inl (fun _ => 0)))), ((a 0), f_x a), ((a 11), f_cores a), ((a 63), .inl (g 0, 6, .inl (fun _ => 0))), ((a 64), .inl (g 0, 6, .inl (fun _ => 0))), ((a 65), .inl (g 0, 6, .inl (fun _ => 0)))] s.heap.size q → z0 ≤ q := Awz hz hD0
  have hS : va_S (va_A [(h0, .inl (g 1, 1, .inr (.inl (fun _ => 0)))), ((a 0), f_x a), ((a 11), f_cores a), ((a 63), .inl (g 0, 6, .inl (fun _ => 0))), ((a 64), .inl (g 0, 6, .inl (fun _ => 0))), ((a 65), .inl (g 0, 6, .inl (fun _ => 0)))] s.heap.size) s.heap s.heap [] := va_S.rf
  have hD : va_D (va_A [(h0, .inl (g 1, 1, .inr (.inl (fun _ => 0)))), ((a 0), f_x a), ((a 11), f_cores a), ((a 63), .inl (g 0, 6, .inl (fun _ => 0))), ((a 64), .inl (g 0, 6, .inl (fun _ => 0))), ((a 65), .inl (g 0, 6, .inl (fun _ => 0)))] s.heap.size) [(h0, .inl (g 1, 1, .inr (.inl (fun _ => 0)))), ((a 0), f_x a), ((a 11), f_cores a), ((a 63), .inl (g 0, 6, .inl (fun _ => 0))), ((a 64), .inl (g 0, 6, .inl (fun _ => 0))), ((a 65), .inl (g 0, 6, .inl (fun _ => 0)))] := hD0.self
  have hP : va_P D vwCl [(h0, .inl (g 1, 1, .inr (.inl (fun _ => 0)))), ((a 0), f_x a), ((a 11), f_cores a), ((a 63), .inl (g 0, 6, .inl (fun _ => 0))), ((a 64), .inl (g 0, 6, .inl (fun _ => 0))), ((a 65), .inl (g 0, 6, .inl (fun _ => 0)))] s.heap := hP0
  have hl : lv_has ls 6 [(0, .ref (a 0)), (1, .int p0), (2, .int p1), (3, .int p2), (4, .ref h0)] := hl
  refine lv_aload hx hb dL_core_0 (lv_at hl 4 rfl) ?_
  refine lv_iconst (v := 0) hx hb dL_core_2 (by decide) ?_
  refine lv_aload_n hx hb dL_core_3 rfl (lv_at hl 0 rfl) ?_
  refine lv_iload_n hx hb dL_core_4 rfl (lv_at hl 1 rfl) ?_
  refine lv_iload_n hx hb dL_core_5 rfl (lv_at hl 2 rfl) ?_
  refine lv_iload_n hx hb dL_core_6 rfl (lv_at hl 3 rfl) ?_
  have hPc : va_P D vwCl [((a 0), f_x a), ((a 11), f_cores a), ((a 63), .inl (g 0, 6, .inl (fun _ => 0))), ((a 64), .inl (g 0, 6, .inl (fun _ => 0))), ((a 65), .inl (g 0, 6, .inl (fun _ => 0)))] _ := hP.sub (ws' := [((a 0), f_x a), ((a 11), f_cores a), ((a 63), .inl (g 0, 6, .inl (fun _ => 0))), ((a 64), .inl (g 0, 6, .inl (fun _ => 0))), ((a 65), .inl (g 0, 6, .inl (fun _ => 0)))]) [1, 2, 3, 4, 5] rfl
  have hDc : va_D (fun q => z0 ≤ q) [((a 0), f_x a), ((a 11), f_cores a), ((a 63), .inl (g 0, 6, .inl (fun _ => 0))), ((a 64), .inl (g 0, 6, .inl (fun _ => 0))), ((a 65), .inl (g 0, 6, .inl (fun _ => 0)))] := (hD.to hAz).pick (ws' := [((a 0), f_x a), ((a 11), f_cores a), ((a 63), .inl (g 0, 6, .inl (fun _ => 0))), ((a 64), .inl (g 0, 6, .inl (fun _ => 0))), ((a 65), .inl (g 0, 6, .inl (fun _ => 0)))]) [1, 2, 3, 4, 5] (by decide) rfl
  have hFc := va_free (wc := [((a 0), f_x a), ((a 11), f_cores a), ((a 63), .inl (g 0, 6, .inl (fun _ => 0))), ((a 64), .inl (g 0, 6, .inl (fun _ => 0))), ((a 65), .inl (g 0, 6, .inl (fun _ => 0)))]) hD hS hA [1, 2, 3, 4, 5] rfl
  refine vx_calli (vx_runV (As := [.int p0, .int p1, .int p2]) (rest := [.int 0, .ref h0]) ⟨hx, hb, hml, hown, ht⟩ (k_X11_core l hfl D g z0 _ a p0 p1 p2) (cwV 3 ht (gV w_582 w_584 w_585 w_31 w_583) rfl rfl rfl (by decide +kernel) (le2 rfl rfl)) ⟨PP.blind, va_recv hK.1 hP (ci := 17) (q0 := 1) rfl rfl, PP.mk' hK hZ hz hAz hS hPc hDc⟩ rfl rfl hl.1 rfl (lv_room (Nat.le_of_ble_eq_true rfl)) dL_core_7 (le2 rfl rfl)) hS (fun q _ h => hFc q h) hFc (fun q _ h => hFc q h) (fun E ce q9 u t H locs ht1 hvm hw hB hz1 hk1 hS hcell hv9 hcl => ?_) (fun r u t H locs ht1 hvm hw hB hz1 hk1 hS => ?_)
  · obtain ⟨hP, hD⟩ := va_join (wr := [(h0, .inl (g 1, 1, .inr (.inl (fun _ => 0))))]) (w1 := []) hP hD [1, 2, 3, 4, 5] [0] rfl rfl (by decide) (by decide) hk1 hFc nil_P nil_D
    have hP : va_P D vwCl [(h0, .inl (g 1, 1, .inr (.inl (fun _ => 0))))] H := hP
    have hD : va_D (va_A [(h0, .inl (g 1, 1, .inr (.inl (fun _ => 0)))), ((a 0), f_x a), ((a 11), f_cores a), ((a 63), .inl (g 0, 6, .inl (fun _ => 0))), ((a 64), .inl (g 0, 6, .inl (fun _ => 0))), ((a 65), .inl (g 0, 6, .inl (fun _ => 0)))] s.heap.size) [(h0, .inl (g 1, 1, .inr (.inl (fun _ => 0))))] := hD
    obtain ⟨rfl, hB⟩ := hB
    rcases hB with hB | hB | hB | hB | hB | hB
    · have c_1 := hB
      refine vx_catch hown [] ⟨0, 12, 15, 24⟩ [⟨0, 12, 19, 15⟩] (htab.trans rfl) (fun _ h9 => absurd h9 List.not_mem_nil) (by decide) (by decide) (ht _ w_540) (hK.2.2.use w_541) hcell hv9 hcl ?_
      refine W.eq (g2 := F0 m 15 ls [.ref q9]) rfl ?_
      refine lv_astore (lv' := [(5, .ref q9), (0, .ref (a 0)), (1, .int p0), (2, .int p1), (3, .int p2), (4, .ref h0)]) hx hb dL_core_15 hl (by decide) rfl (fun ls hl => ?_)
      refine lv_iconst (v := 1) hx hb dL_core_17 (by decide) ?_
      have hP9 := hP.sub (ws' := [(h0, .inl (g 1, 1, .inr (.inl (fun _ => 0))))]) [0] rfl
      have hD9 := hD.sub (ws' := [(h0, .inl (g 1, 1, .inr (.inl (fun _ => 0))))]) [0] (by decide) rfl
      refine W.widen (k := 3) (n := 18) (Nat.le_of_ble_eq_true rfl) (Nat.le_of_ble_eq_true rfl) ?_
      exact W.iret (v := 1) hx hb hr (fun t ht9 hW9 => ⟨⟨1, (), rfl, (Or.inl ⟨rfl, (Or.inl c_1)⟩), ⟨(by rw [ht9]; exact hP9), hD9⟩⟩, hS.F ht9⟩) hS.2.2 dL_core_18 hlocks
    · obtain ⟨c_2, c_3⟩ := hB
      refine vx_catch hown [] ⟨0, 12, 15, 24⟩ [⟨0, 12, 19, 15⟩] (htab.trans rfl) (fun _ h9 => absurd h9 List.not_mem_nil) (by decide) (by decide) (ht _ w_540) (hK.2.2.use w_541) hcell hv9 hcl ?_
      refine W.eq (g2 := F0 m 15 ls [.ref q9]) rfl ?_
      refine lv_astore (lv' := [(5, .ref q9), (0, .ref (a 0)), (1, .int p0), (2, .int p1), (3, .int p2), (4, .ref h0)]) hx hb dL_core_15 hl (by decide) rfl (fun ls hl => ?_)
      refine lv_iconst (v := 1) hx hb dL_core_17 (by decide) ?_
      have hP9 := hP.sub (ws' := [(h0, .inl (g 1, 1, .inr (.inl (fun _ => 0))))]) [0] rfl
      have hD9 := hD.sub (ws' := [(h0, .inl (g 1, 1, .inr (.inl (fun _ => 0))))]) [0] (by decide) rfl
      refine W.widen (k := 3) (n := 18) (Nat.le_of_ble_eq_true rfl) (Nat.le_of_ble_eq_true rfl) ?_
      exact W.iret (v := 1) hx hb hr (fun t ht9 hW9 => ⟨⟨1, (), rfl, (Or.inl ⟨rfl, (Or.inr (Or.inl ⟨c_2, c_3⟩))⟩), ⟨(by rw [ht9]; exact hP9), hD9⟩⟩, hS.F ht9⟩) hS.2.2 dL_core_18 hlocks
    · obtain ⟨c_4, c_5, c_6⟩ := hB
      refine vx_catch hown [] ⟨0, 12, 15, 24⟩ [⟨0, 12, 19, 15⟩] (htab.trans rfl) (fun _ h9 => absurd h9 List.not_mem_nil) (by decide) (by decide) (ht _ w_540) (hK.2.2.use w_541) hcell hv9 hcl ?_
      refine W.eq (g2 := F0 m 15 ls [.ref q9]) rfl ?_
      refine lv_astore (lv' := [(5, .ref q9), (0, .ref (a 0)), (1, .int p0), (2, .int p1), (3, .int p2), (4, .ref h0)]) hx hb dL_core_15 hl (by decide) rfl (fun ls hl => ?_)
      refine lv_iconst (v := 1) hx hb dL_core_17 (by decide) ?_
      have hP9 := hP.sub (ws' := [(h0, .inl (g 1, 1, .inr (.inl (fun _ => 0))))]) [0] rfl
      have hD9 := hD.sub (ws' := [(h0, .inl (g 1, 1, .inr (.inl (fun _ => 0))))]) [0] (by decide) rfl
      refine W.widen (k := 3) (n := 18) (Nat.le_of_ble_eq_true rfl) (Nat.le_of_ble_eq_true rfl) ?_
      exact W.iret (v := 1) hx hb hr (fun t ht9 hW9 => ⟨⟨1, (), rfl, (Or.inl ⟨rfl, (Or.inr (Or.inr (Or.inl ⟨c_4, c_5, c_6⟩)))⟩), ⟨(by rw [ht9]; exact hP9), hD9⟩⟩, hS.F ht9⟩) hS.2.2 dL_core_18 hlocks
    · obtain ⟨c_7, c_8, c_9, c_10⟩ := hB
      refine vx_catch hown [] ⟨0, 12, 15, 24⟩ [⟨0, 12, 19, 15⟩] (htab.trans rfl) (fun _ h9 => absurd h9 List.not_mem_nil) (by decide) (by decide) (ht _ w_540) (hK.2.2.use w_541) hcell hv9 hcl ?_
      refine W.eq (g2 := F0 m 15 ls [.ref q9]) rfl ?_
      refine lv_astore (lv' := [(5, .ref q9), (0, .ref (a 0)), (1, .int p0), (2, .int p1), (3, .int p2), (4, .ref h0)]) hx hb dL_core_15 hl (by decide) rfl (fun ls hl => ?_)
      refine lv_iconst (v := 1) hx hb dL_core_17 (by decide) ?_
      have hP9 := hP.sub (ws' := [(h0, .inl (g 1, 1, .inr (.inl (fun _ => 0))))]) [0] rfl
      have hD9 := hD.sub (ws' := [(h0, .inl (g 1, 1, .inr (.inl (fun _ => 0))))]) [0] (by decide) rfl
      refine W.widen (k := 3) (n := 18) (Nat.le_of_ble_eq_true rfl) (Nat.le_of_ble_eq_true rfl) ?_
      exact W.iret (v := 1) hx hb hr (fun t ht9 hW9 => ⟨⟨1, (), rfl, (Or.inl ⟨rfl, (Or.inr (Or.inr (Or.inr (Or.inl ⟨c_7, c_8, c_9, c_10⟩))))⟩), ⟨(by rw [ht9]; exact hP9), hD9⟩⟩, hS.F ht9⟩) hS.2.2 dL_core_18 hlocks
    · obtain ⟨c_11, c_12, c_13, c_14, c_15⟩ := hB
      refine vx_catch hown [] ⟨0, 12, 15, 24⟩ [⟨0, 12, 19, 15⟩] (htab.trans rfl) (fun _ h9 => absurd h9 List.not_mem_nil) (by decide) (by decide) (ht _ w_540) (hK.2.2.use w_541) hcell hv9 hcl ?_
      refine W.eq (g2 := F0 m 15 ls [.ref q9]) rfl ?_
      refine lv_astore (lv' := [(5, .ref q9), (0, .ref (a 0)), (1, .int p0), (2, .int p1), (3, .int p2), (4, .ref h0)]) hx hb dL_core_15 hl (by decide) rfl (fun ls hl => ?_)
      refine lv_iconst (v := 1) hx hb dL_core_17 (by decide) ?_
      have hP9 := hP.sub (ws' := [(h0, .inl (g 1, 1, .inr (.inl (fun _ => 0))))]) [0] rfl
      have hD9 := hD.sub (ws' := [(h0, .inl (g 1, 1, .inr (.inl (fun _ => 0))))]) [0] (by decide) rfl
      refine W.widen (k := 3) (n := 18) (Nat.le_of_ble_eq_true rfl) (Nat.le_of_ble_eq_true rfl) ?_
      exact W.iret (v := 1) hx hb hr (fun t ht9 hW9 => ⟨⟨1, (), rfl, (Or.inl ⟨rfl, (Or.inr (Or.inr (Or.inr (Or.inr (Or.inl ⟨c_11, c_12, c_13, c_14, c_15⟩)))))⟩), ⟨(by rw [ht9]; exact hP9), hD9⟩⟩, hS.F ht9⟩) hS.2.2 dL_core_18 hlocks
    · obtain ⟨c_16, c_17, c_18, c_19, c_20, c_21⟩ := hB
      refine vx_catch hown [] ⟨0, 12, 15, 24⟩ [⟨0, 12, 19, 15⟩] (htab.trans rfl) (fun _ h9 => absurd h9 List.not_mem_nil) (by decide) (by decide) (ht _ w_540) (hK.2.2.use w_541) hcell hv9 hcl ?_
      refine W.eq (g2 := F0 m 15 ls [.ref q9]) rfl ?_
      refine lv_astore (lv' := [(5, .ref q9), (0, .ref (a 0)), (1, .int p0), (2, .int p1), (3, .int p2), (4, .ref h0)]) hx hb dL_core_15 hl (by decide) rfl (fun ls hl => ?_)
      refine lv_iconst (v := 1) hx hb dL_core_17 (by decide) ?_
      have hP9 := hP.sub (ws' := [(h0, .inl (g 1, 1, .inr (.inl (fun _ => 0))))]) [0] rfl
      have hD9 := hD.sub (ws' := [(h0, .inl (g 1, 1, .inr (.inl (fun _ => 0))))]) [0] (by decide) rfl
      refine W.widen (k := 3) (n := 18) (Nat.le_of_ble_eq_true rfl) (Nat.le_of_ble_eq_true rfl) ?_
      exact W.iret (v := 1) hx hb hr (fun t ht9 hW9 => ⟨⟨1, (), rfl, (Or.inl ⟨rfl, (Or.inr (Or.inr (Or.inr (Or.inr (Or.inr ⟨c_16, c_17, c_18, c_19, c_20, c_21⟩)))))⟩), ⟨(by rw [ht9]; exact hP9), hD9⟩⟩, hS.F ht9⟩) hS.2.2 dL_core_18 hlocks
  · obtain ⟨rfl, hw⟩ := hw
    obtain ⟨c_22, c_23, c_24, c_25, c_26, c_27⟩ := hw
    obtain ⟨hP1, hD1⟩ := hB
    rw [ht1] at hP1
    obtain ⟨hP, hD⟩ := va_join (wr := [(h0, .inl (g 1, 1, .inr (.inl (fun _ => 0))))]) (w1 := []) hP hD [1, 2, 3, 4, 5] [0] rfl rfl (by decide) (by decide) hk1 hFc hP1 hD1
    have hP : va_P D vwCl [(h0, .inl (g 1, 1, .inr (.inl (fun _ => 0))))] H := hP
    have hD : va_D (va_A [(h0, .inl (g 1, 1, .inr (.inl (fun _ => 0)))), ((a 0), f_x a), ((a 11), f_cores a), ((a 63), .inl (g 0, 6, .inl (fun _ => 0))), ((a 64), .inl (g 0, 6, .inl (fun _ => 0))), ((a 65), .inl (g 0, 6, .inl (fun _ => 0)))] s.heap.size) [(h0, .inl (g 1, 1, .inr (.inl (fun _ => 0))))] := hD
    refine lv_i2l (v := 0) hx hb dL_core_10 (by decide) ?_
    refine va_last hx hb hK.1 hP hD hS 0 1 rfl rfl (by unfold vp_in; decide) dL_core_11 (fun H locs hP hD hS => ?_)
    have hP : va_P D vwCl [(h0, .inl (g 1, 1, .inr (.inl (vp_updL (fun _ => 0) (0 : Int32).toNatClampNeg 0))))] H := hP
    have hD : va_D (va_A [(h0, .inl (g 1, 1, .inr (.inl (fun _ => 0)))), ((a 0), f_x a), ((a 11), f_cores a), ((a 63), .inl (g 0, 6, .inl (fun _ => 0))), ((a 64), .inl (g 0, 6, .inl (fun _ => 0))), ((a 65), .inl (g 0, 6, .inl (fun _ => 0)))] s.heap.size) [(h0, .inl (g 1, 1, .inr (.inl (vp_updL (fun _ => 0) (0 : Int32).toNatClampNeg 0))))] := hD
    have hP := one_up (v := 0) hP 0 rfl rfl
    have hD := va_D.set (p := 0) (e := .inl (g 1, 1, .inr (.inl (fun _ => 0)))) hD rfl
    have hP : va_P D vwCl [(h0, .inl (g 1, 1, .inr (.inl (fun _ => 0))))] H := hP
    have hD : va_D (va_A [(h0, .inl (g 1, 1, .inr (.inl (fun _ => 0)))), ((a 0), f_x a), ((a 11), f_cores a), ((a 63), .inl (g 0, 6, .inl (fun _ => 0))), ((a 64), .inl (g 0, 6, .inl (fun _ => 0))), ((a 65), .inl (g 0, 6, .inl (fun _ => 0)))] s.heap.size) [(h0, .inl (g 1, 1, .inr (.inl (fun _ => 0))))] := hD
    refine lv_goto (tgt := 23) hx hb dL_core_12 (by decide) ?_
    refine lv_iconst (v := 0) hx hb dL_core_23 (by decide) ?_
    have hP9 := hP.sub (ws' := [(h0, .inl (g 1, 1, .inr (.inl (fun _ => 0))))]) [0] rfl
    have hD9 := hD.sub (ws' := [(h0, .inl (g 1, 1, .inr (.inl (fun _ => 0))))]) [0] (by decide) rfl
    refine W.widen (k := 3) (n := 18) (Nat.le_of_ble_eq_true rfl) (Nat.le_of_ble_eq_true rfl) ?_
    exact W.iret (v := 0) hx hb hr (fun t ht9 hW9 => ⟨⟨0, (), rfl, (Or.inr ⟨rfl, ⟨c_22, c_23, c_24, c_25, c_26, c_27⟩⟩), ⟨(by rw [ht9]; exact hP9), hD9⟩⟩, hS.F ht9⟩) hS.2.2 dL_core_24 hlocks
set_option maxHeartbeats 4000000 in
set_option maxRecDepth 100000 in
theorem k_L_coverage (l : Launch) (hfl : l.stackTraces = false) (D : va_G) (g : Nat → ClassId) (z0 sz : Nat) (a : Nat → Nat) (p0 : Int32) (h0 : Nat) (hc_p0 : isC p0) : Met l yL_coverage (.codeWith yL_coverage cL_coverage 4 (some .int) [(0, 9, 12, 24), (0, 9, 15, 81)] :: TG) (rmk 8 2 12 124) (va_Pc [.ref (a 0), .int p0, .ref h0] (PP D g z0 sz [(h0, .inl (g 4, 1, .inr (.inr (.inr (.inl (fun _ => 0)))))), ((a 0), f_x a), ((a 2), f_book a)])) (va_Qi (fun (r : Int32) (u : Unit) => ((r = 1) ∧ ((¬ p0 = 115) ∧ (¬ p0 = 112) ∧ (¬ p0 = 100))) ∨ ((r = 2) ∧ ((p0 = 115) ∨ ((¬ p0 = 115) ∧ (p0 = 112)) ∨ ((¬ p0 = 115) ∧ (¬ p0 = 112) ∧ (p0 = 100))))) (fun (u : Unit) (t : State) => va_P D vwCl [(h0, .inl (g 4, 1, .inr (.inr (.inr (.inl (fun _ => 0))))))] t.heap ∧ va_D (va_A [(h0, .inl (g 4, 1, .inr (.inr (.inr (.inl (fun _ => 0)))))), ((a 0), f_x a), ((a 2), f_book a)] sz) [(h0, .inl (g 4, 1, .inr (.inr (.inr (.inl (fun _ => 0))))))]) (va_A [(h0, .inl (g 4, 1, .inr (.inr (.inr (.inl (fun _ => 0)))))), ((a 0), f_x a), ((a 2), f_book a)] sz)) 2 12 (va_A [(h0, .inl (g 4, 1, .inr (.inr (.inr (.inl (fun _ => 0)))))), ((a 0), f_x a), ((a 2), f_book a)] sz) := by
  refine metW0 (cc := cL_coverage) (n := 4) (hh := [(0, 9, 12, 24), (0, 9, 15, 81)]) (by decide) (Nat.le_of_ble_eq_true rfl) ?_
  intro p e s m args below meth c hx hb hr hml htab hown ht hlocks hnm hP0 hD0 hK hZ hsz hz ls hl
  subst hsz
  have hA : ∀ q : Nat, s.heap.size ≤ q → va_A [(h0, .inl (g 4, 1, .inr (.inr (.inr (.inl (fun _ => 0)))))), ((a 0), f_x a), ((a 2), f_book a)] s.heap.size q := Anw
  have hAz : ∀ q, va_A [(h0, .inl (g 4, 1, .inr (.inr (.inr (.inl (fun _ => 0)))))), ((a 0), f_x a), ((a 2), f_book a)] s.heap.size q → z0 ≤ q := Awz hz hD0
  have hS : va_S (va_A [(h0, .inl (g 4, 1, .inr (.inr (.inr (.inl (fun _ => 0)))))), ((a 0), f_x a), ((a 2), f_book a)] s.heap.size) s.heap s.heap [] := va_S.rf
  have hD : va_D (va_A [(h0, .inl (g 4, 1, .inr (.inr (.inr (.inl (fun _ => 0)))))), ((a 0), f_x a), ((a 2), f_book a)] s.heap.size) [(h0, .inl (g 4, 1, .inr (.inr (.inr (.inl (fun _ => 0)))))), ((a 0), f_x a), ((a 2), f_book a)] := hD0.self
  have hP : va_P D vwCl [(h0, .inl (g 4, 1, .inr (.inr (.inr (.inl (fun _ => 0)))))), ((a 0), f_x a), ((a 2), f_book a)] s.heap := hP0
  have hl : lv_has ls 4 [(0, .ref (a 0)), (1, .int p0), (2, .ref h0)] := hl
  refine lv_aload_n hx hb dL_coverage_0 rfl (lv_at hl 2 rfl) ?_
  refine lv_iconst (v := 0) hx hb dL_coverage_1 (by decide) ?_
  refine lv_aload_n hx hb dL_coverage_2 rfl (lv_at hl 0 rfl) ?_
  refine lv_iload_n hx hb dL_coverage_3 rfl (lv_at hl 1 rfl) ?_
  have hPc : va_P D vwCl [((a 0), f_x a), ((a 2), f_book a)] _ := hP.sub (ws' := [((a 0), f_x a), ((a 2), f_book a)]) [1, 2] rfl
  have hDc : va_D (fun q => z0 ≤ q) [((a 0), f_x a), ((a 2), f_book a)] := (hD.to hAz).pick (ws' := [((a 0), f_x a), ((a 2), f_book a)]) [1, 2] (by decide) rfl
  have hFc := AnA (ws := [(h0, .inl (g 4, 1, .inr (.inr (.inr (.inl (fun _ => 0)))))), ((a 0), f_x a), ((a 2), f_book a)]) hS.1
  refine vx_callf (vx_runV (As := [.int p0]) (rest := [.int 0, .ref h0]) ⟨hx, hb, hml, hown, ht⟩ (k_X11_coverage l hfl D g z0 _ a p0 hc_p0) (cwV 1 ht (gV w_586 w_588 w_589 w_31 w_587) rfl rfl rfl (by decide +kernel) (le2 rfl rfl)) ⟨PP.blind, va_recv hK.1 hP (ci := 17) (q0 := 1) rfl rfl, PP.mk' hK hZ hz hAz hS hPc hDc⟩ rfl rfl hl.1 rfl (lv_room (Nat.le_of_ble_eq_true rfl)) dL_coverage_4 (le2 rfl rfl)) hS (fun q _ h => hFc q h) hFc (fun q _ h => hFc q h) (fun E ce q9 u t H locs ht1 hvm hw hB hz1 hk1 hS hcell hv9 hcl => ?_) (fun r u t H locs ht1 hvm hw hB hz1 hk1 hS => ?_)
  · have hP := ro1 hP hk1
    rcases hB with hB | hB
    · obtain ⟨rfl, hB⟩ := hB
      obtain ⟨c_1, c_2, c_3⟩ := hB
      refine vx_catch hown [] ⟨0, 9, 12, 24⟩ [⟨0, 9, 15, 81⟩] (htab.trans rfl) (fun _ h9 => absurd h9 List.not_mem_nil) (by decide) (by decide) (ht _ w_540) (hK.2.2.use w_541) hcell hv9 hcl ?_
      refine W.eq (g2 := F0 m 12 ls [.ref q9]) rfl ?_
      refine lv_astore_n (lv' := [(3, .ref q9), (0, .ref (a 0)), (1, .int p0), (2, .ref h0)]) hx hb dL_coverage_12 rfl hl (by decide) rfl (fun ls hl => ?_)
      refine lv_iconst (v := 1) hx hb dL_coverage_13 (by decide) ?_
      have hP9 := hP.sub (ws' := [(h0, .inl (g 4, 1, .inr (.inr (.inr (.inl (fun _ => 0))))))]) [0] rfl
      have hD9 := hD.sub (ws' := [(h0, .inl (g 4, 1, .inr (.inr (.inr (.inl (fun _ => 0))))))]) [0] (by decide) rfl
      refine W.widen (k := 2) (n := 12) (Nat.le_of_ble_eq_true rfl) (Nat.le_of_ble_eq_true rfl) ?_
      exact W.iret (v := 1) hx hb hr (fun t ht9 hW9 => ⟨⟨1, (), rfl, (Or.inl ⟨rfl, ⟨c_1, c_2, c_3⟩⟩), ⟨(by rw [ht9]; exact hP9), hD9⟩⟩, hS.F ht9⟩) hS.2.2 dL_coverage_14 hlocks
    · obtain ⟨rfl, hB⟩ := hB
      rcases hB with hB | hB | hB
      · have c_4 := hB
        refine vx_catch hown [⟨0, 9, 12, 24⟩] ⟨0, 9, 15, 81⟩ [] (htab.trans rfl) (List.forall_mem_cons.mpr ⟨Or.inr ⟨by decide, "java/lang/IllegalArgumentException", ht _ w_540, hK.2.2.2.2.1 _ (List.mem_of_getElem? (i := 17) rfl)⟩, (fun _ h9 => absurd h9 List.not_mem_nil)⟩) (by decide) (by decide) (ht _ w_590) (hK.2.2.use w_591) hcell hv9 hcl ?_
        refine W.eq (g2 := F0 m 15 ls [.ref q9]) rfl ?_
        refine lv_astore_n (lv' := [(3, .ref q9), (0, .ref (a 0)), (1, .int p0), (2, .ref h0)]) hx hb dL_coverage_15 rfl hl (by decide) rfl (fun ls hl => ?_)
        refine lv_iconst (v := 2) hx hb dL_coverage_16 (by decide) ?_
        have hP9 := hP.sub (ws' := [(h0, .inl (g 4, 1, .inr (.inr (.inr (.inl (fun _ => 0))))))]) [0] rfl
        have hD9 := hD.sub (ws' := [(h0, .inl (g 4, 1, .inr (.inr (.inr (.inl (fun _ => 0))))))]) [0] (by decide) rfl
        refine W.widen (k := 2) (n := 12) (Nat.le_of_ble_eq_true rfl) (Nat.le_of_ble_eq_true rfl) ?_
        exact W.iret (v := 2) hx hb hr (fun t ht9 hW9 => ⟨⟨2, (), rfl, (Or.inr ⟨rfl, (Or.inl c_4)⟩), ⟨(by rw [ht9]; exact hP9), hD9⟩⟩, hS.F ht9⟩) hS.2.2 dL_coverage_17 hlocks
      · obtain ⟨c_5, c_6⟩ := hB
        refine vx_catch hown [⟨0, 9, 12, 24⟩] ⟨0, 9, 15, 81⟩ [] (htab.trans rfl) (List.forall_mem_cons.mpr ⟨Or.inr ⟨by decide, "java/lang/IllegalArgumentException", ht _ w_540, hK.2.2.2.2.1 _ (List.mem_of_getElem? (i := 17) rfl)⟩, (fun _ h9 => absurd h9 List.not_mem_nil)⟩) (by decide) (by decide) (ht _ w_590) (hK.2.2.use w_591) hcell hv9 hcl ?_
        refine W.eq (g2 := F0 m 15 ls [.ref q9]) rfl ?_
        refine lv_astore_n (lv' := [(3, .ref q9), (0, .ref (a 0)), (1, .int p0), (2, .ref h0)]) hx hb dL_coverage_15 rfl hl (by decide) rfl (fun ls hl => ?_)
        refine lv_iconst (v := 2) hx hb dL_coverage_16 (by decide) ?_
        have hP9 := hP.sub (ws' := [(h0, .inl (g 4, 1, .inr (.inr (.inr (.inl (fun _ => 0))))))]) [0] rfl
        have hD9 := hD.sub (ws' := [(h0, .inl (g 4, 1, .inr (.inr (.inr (.inl (fun _ => 0))))))]) [0] (by decide) rfl
        refine W.widen (k := 2) (n := 12) (Nat.le_of_ble_eq_true rfl) (Nat.le_of_ble_eq_true rfl) ?_
        exact W.iret (v := 2) hx hb hr (fun t ht9 hW9 => ⟨⟨2, (), rfl, (Or.inr ⟨rfl, (Or.inr (Or.inl ⟨c_5, c_6⟩))⟩), ⟨(by rw [ht9]; exact hP9), hD9⟩⟩, hS.F ht9⟩) hS.2.2 dL_coverage_17 hlocks
      · obtain ⟨c_7, c_8, c_9⟩ := hB
        refine vx_catch hown [⟨0, 9, 12, 24⟩] ⟨0, 9, 15, 81⟩ [] (htab.trans rfl) (List.forall_mem_cons.mpr ⟨Or.inr ⟨by decide, "java/lang/IllegalArgumentException", ht _ w_540, hK.2.2.2.2.1 _ (List.mem_of_getElem? (i := 17) rfl)⟩, (fun _ h9 => absurd h9 List.not_mem_nil)⟩) (by decide) (by decide) (ht _ w_590) (hK.2.2.use w_591) hcell hv9 hcl ?_
        refine W.eq (g2 := F0 m 15 ls [.ref q9]) rfl ?_
        refine lv_astore_n (lv' := [(3, .ref q9), (0, .ref (a 0)), (1, .int p0), (2, .ref h0)]) hx hb dL_coverage_15 rfl hl (by decide) rfl (fun ls hl => ?_)
        refine lv_iconst (v := 2) hx hb dL_coverage_16 (by decide) ?_
        have hP9 := hP.sub (ws' := [(h0, .inl (g 4, 1, .inr (.inr (.inr (.inl (fun _ => 0))))))]) [0] rfl
        have hD9 := hD.sub (ws' := [(h0, .inl (g 4, 1, .inr (.inr (.inr (.inl (fun _ => 0))))))]) [0] (by decide) rfl
        refine W.widen (k := 2) (n := 12) (Nat.le_of_ble_eq_true rfl) (Nat.le_of_ble_eq_true rfl) ?_
        exact W.iret (v := 2) hx hb hr (fun t ht9 hW9 => ⟨⟨2, (), rfl, (Or.inr ⟨rfl, (Or.inr (Or.inr ⟨c_7, c_8, c_9⟩))⟩), ⟨(by rw [ht9]; exact hP9), hD9⟩⟩, hS.F ht9⟩) hS.2.2 dL_coverage_17 hlocks
  · exact hw.elim
set_option maxHeartbeats 4000000 in
set_option maxRecDepth 100000 in
theorem k_L_data (l : Launch) (hfl : l.stackTraces = false) (D : va_G) (g : Nat → ClassId) (z0 sz : Nat) (a : Nat → Nat) (p0 : Int32) (p1 : Int32) (h0 : Nat) : Met l yL_data (.codeWith yL_data cL_data 5 (some .int) [(0, 10, 13, 26), (0, 10, 17, 13)] :: TG) (rmk 8 1 6 125) (va_Pc [.ref (a 0), .int p0, .int p1, .ref h0] (PP D g z0 sz [(h0, .inl (g 1, 1, .inr (.inl (fun _ => 0)))), ((a 0), f_x a), ((a 1), f_net a)])) (va_Qi (fun (r : Int32) (u : Unit) => (r = 1) ∧ True) (fun (u : Unit) (t : State) => va_P D vwCl [(h0, .inl (g 1, 1, .inr (.inl (fun _ => 0))))] t.heap ∧ va_D (va_A [(h0, .inl (g 1, 1, .inr (.inl (fun _ => 0)))), ((a 0), f_x a), ((a 1), f_net a)] sz) [(h0, .inl (g 1, 1, .inr (.inl (fun _ => 0))))]) (va_A [(h0, .inl (g 1, 1, .inr (.inl (fun _ => 0)))), ((a 0), f_x a), ((a 1), f_net a)] sz)) 1 6 (va_A [(h0, .inl (g 1, 1, .inr (.inl (fun _ => 0)))), ((a 0), f_x a), ((a 1), f_net a)] sz) := by
  refine metW0 (cc := cL_data) (n := 5) (hh := [(0, 10, 13, 26), (0, 10, 17, 13)]) (by decide) (Nat.le_of_ble_eq_true rfl) ?_
  intro p e s m args below meth c hx hb hr hml htab hown ht hlocks hnm hP0 hD0 hK hZ hsz hz ls hl
  subst hsz
  have hA : ∀ q : Nat, s.heap.size ≤ q → va_A [(h0, .inl (g 1, 1, .inr (.inl (fun _ => 0)))), ((a 0), f_x a), ((a 1), f_net a)] s.heap.size q := Anw
  have hAz : ∀ q, va_A [(h0, .inl (g 1, 1, .inr (.inl (fun _ => 0)))), ((a 0), f_x a), ((a 1), f_net a)] s.heap.size q → z0 ≤ q := Awz hz hD0
  have hS : va_S (va_A [(h0, .inl (g 1, 1, .inr (.inl (fun _ => 0)))), ((a 0), f_x a), ((a 1), f_net a)] s.heap.size) s.heap s.heap [] := va_S.rf
  have hD : va_D (va_A [(h0, .inl (g 1, 1, .inr (.inl (fun _ => 0)))), ((a 0), f_x a), ((a 1), f_net a)] s.heap.size) [(h0, .inl (g 1, 1, .inr (.inl (fun _ => 0)))), ((a 0), f_x a), ((a 1), f_net a)] := hD0.self
  have hP : va_P D vwCl [(h0, .inl (g 1, 1, .inr (.inl (fun _ => 0)))), ((a 0), f_x a), ((a 1), f_net a)] s.heap := hP0
  have hl : lv_has ls 5 [(0, .ref (a 0)), (1, .int p0), (2, .int p1), (3, .ref h0)] := hl
  refine lv_aload_n hx hb dL_data_0 rfl (lv_at hl 3 rfl) ?_
  refine lv_iconst (v := 0) hx hb dL_data_1 (by decide) ?_
  refine lv_aload_n hx hb dL_data_2 rfl (lv_at hl 0 rfl) ?_
  refine lv_iload_n hx hb dL_data_3 rfl (lv_at hl 1 rfl) ?_
  refine lv_iload_n hx hb dL_data_4 rfl (lv_at hl 2 rfl) ?_
  have hPc : va_P D vwCl [((a 0), f_x a), ((a 1), f_net a)] _ := hP.sub (ws' := [((a 0), f_x a), ((a 1), f_net a)]) [1, 2] rfl
  have hDc : va_D (fun q => z0 ≤ q) [((a 0), f_x a), ((a 1), f_net a)] := (hD.to hAz).pick (ws' := [((a 0), f_x a), ((a 1), f_net a)]) [1, 2] (by decide) rfl
  have hFc := AnA (ws := [(h0, .inl (g 1, 1, .inr (.inl (fun _ => 0)))), ((a 0), f_x a), ((a 1), f_net a)]) hS.1
  refine vx_calli (vx_runV (As := [.int p0, .int p1]) (rest := [.int 0, .ref h0]) ⟨hx, hb, hml, hown, ht⟩ (k_X11_data l hfl D g z0 _ a p0 p1) (cwV 2 ht (gV w_592 w_594 w_595 w_31 w_593) rfl rfl rfl (by decide +kernel) (le2 rfl rfl)) ⟨PP.blind, va_recv hK.1 hP (ci := 17) (q0 := 1) rfl rfl, PP.mk' hK hZ hz hAz hS hPc hDc⟩ rfl rfl hl.1 rfl (lv_room (Nat.le_of_ble_eq_true rfl)) dL_data_5 (le2 rfl rfl)) hS (fun q _ h => hFc q h) hFc (fun q _ h => hFc q h) (fun E ce q9 u t H locs ht1 hvm hw hB hz1 hk1 hS hcell hv9 hcl => ?_) (fun r u t H locs ht1 hvm hw hB hz1 hk1 hS => ?_)
  · have hP := ro1 hP hk1
    obtain ⟨rfl, hB⟩ := hB
    refine vx_catch hown [] ⟨0, 10, 13, 26⟩ [⟨0, 10, 17, 13⟩] (htab.trans rfl) (fun _ h9 => absurd h9 List.not_mem_nil) (by decide) (by decide) (ht _ w_534) (hK.2.2.use w_535) hcell hv9 hcl ?_
    refine W.eq (g2 := F0 m 13 ls [.ref q9]) rfl ?_
    refine lv_astore (lv' := [(4, .ref q9), (0, .ref (a 0)), (1, .int p0), (2, .int p1), (3, .ref h0)]) hx hb dL_data_13 hl (by decide) rfl (fun ls hl => ?_)
    refine lv_iconst (v := 1) hx hb dL_data_15 (by decide) ?_
    have hP9 := hP.sub (ws' := [(h0, .inl (g 1, 1, .inr (.inl (fun _ => 0))))]) [0] rfl
    have hD9 := hD.sub (ws' := [(h0, .inl (g 1, 1, .inr (.inl (fun _ => 0))))]) [0] (by decide) rfl
    refine W.widen (k := 1) (n := 6) (Nat.le_of_ble_eq_true rfl) (Nat.le_of_ble_eq_true rfl) ?_
    exact W.iret (v := 1) hx hb hr (fun t ht9 hW9 => ⟨⟨1, (), rfl, ⟨rfl, trivial⟩, ⟨(by rw [ht9]; exact hP9), hD9⟩⟩, hS.F ht9⟩) hS.2.2 dL_data_16 hlocks
  · exact hw.elim
set_option maxHeartbeats 4000000 in
set_option maxRecDepth 100000 in
theorem k_L_escapes (l : Launch) (hfl : l.stackTraces = false) (D : va_G) (g : Nat → ClassId) (z0 sz : Nat) (a : Nat → Nat) (p0 : Int32) (h0 : Nat) : Met l yL_escapes (.codeWith yL_escapes cL_escapes 4 (some .int) [(0, 9, 12, 24)] :: TG) (rmk 8 1 6 128) (va_Pc [.ref (a 0), .int p0, .ref h0] (PP D g z0 sz [(h0, .inl (g 1, 1, .inr (.inl (fun _ => 0)))), ((a 0), f_x a), ((a 3), f_rows a), ((a 4), f_words a), ((a 38), .inl (g 1, 12, .inr (.inl (fun _ => 0)))), ((a 39), .inl (g 1, 12, .inr (.inl (fun _ => 0)))), ((a 1), f_net a), ((a 2), f_book a)])) (va_Qi (fun (r : Int32) (u : Unit) => ((r = 1) ∧ ((p0 < 0) ∨ ((¬ p0 < 0) ∧ (¬ p0 ≤ 0)))) ∨ ((r = 0) ∧ ((¬ p0 < 0) ∧ (p0 ≤ 0)))) (fun (u : Unit) (t : State) => va_P D vwCl [(h0, .inl (g 1, 1, .inr (.inl (fun _ => 0))))] t.heap ∧ va_D (va_A [(h0, .inl (g 1, 1, .inr (.inl (fun _ => 0)))), ((a 0), f_x a), ((a 3), f_rows a), ((a 4), f_words a), ((a 38), .inl (g 1, 12, .inr (.inl (fun _ => 0)))), ((a 39), .inl (g 1, 12, .inr (.inl (fun _ => 0)))), ((a 1), f_net a), ((a 2), f_book a)] sz) [(h0, .inl (g 1, 1, .inr (.inl (fun _ => 0))))]) (va_A [(h0, .inl (g 1, 1, .inr (.inl (fun _ => 0)))), ((a 0), f_x a), ((a 3), f_rows a), ((a 4), f_words a), ((a 38), .inl (g 1, 12, .inr (.inl (fun _ => 0)))), ((a 39), .inl (g 1, 12, .inr (.inl (fun _ => 0)))), ((a 1), f_net a), ((a 2), f_book a)] sz)) 1 6 (va_A [(h0, .inl (g 1, 1, .inr (.inl (fun _ => 0)))), ((a 0), f_x a), ((a 3), f_rows a), ((a 4), f_words a), ((a 38), .inl (g 1, 12, .inr (.inl (fun _ => 0)))), ((a 39), .inl (g 1, 12, .inr (.inl (fun _ => 0)))), ((a 1), f_net a), ((a 2), f_book a)] sz) := by
  refine metW0 (cc := cL_escapes) (n := 4) (hh := [(0, 9, 12, 24)]) (by decide) (Nat.le_of_ble_eq_true rfl) ?_
  intro p e s m args below meth c hx hb hr hml htab hown ht hlocks hnm hP0 hD0 hK hZ hsz hz ls hl
  subst hsz
  have hA : ∀ q : Nat, s.heap.size ≤ q → va_A [(h0, .inl (g 1, 1, .inr (.inl (fun _ => 0)))), ((a 0), f_x a), ((a 3), f_rows a), ((a 4), f_words a), ((a 38), .inl (g 1, 12, .inr (.inl (fun _ => 0)))), ((a 39), .inl (g 1, 12, .inr (.inl (fun _ => 0)))), ((a 1), f_net a), ((a 2), f_book a)] s.heap.size q := Anw
  have hAz : ∀ q, va_A [(h0, .inl (g 1, 1, .inr (.inl (fun _ => 0)))), ((a 0), f_x a), ((a 3), f_rows a), ((a 4), f_words a), ((a 38), .inl (g 1, 12, .inr (.inl (fun _ => 0)))), ((a 39), .inl (g 1, 12, .inr (.inl (fun _ => 0)))), ((a 1), f_net a), ((a 2), f_book a)] s.heap.size q → z0 ≤ q := Awz hz hD0
  have hS : va_S (va_A [(h0, .inl (g 1, 1, .inr (.inl (fun _ => 0)))), ((a 0), f_x a), ((a 3), f_rows a), ((a 4), f_words a), ((a 38), .inl (g 1, 12, .inr (.inl (fun _ => 0)))), ((a 39), .inl (g 1, 12, .inr (.inl (fun _ => 0)))), ((a 1), f_net a), ((a 2), f_book a)] s.heap.size) s.heap s.heap [] := va_S.rf
  have hD : va_D (va_A [(h0, .inl (g 1, 1, .inr (.inl (fun _ => 0)))), ((a 0), f_x a), ((a 3), f_rows a), ((a 4), f_words a), ((a 38), .inl (g 1, 12, .inr (.inl (fun _ => 0)))), ((a 39), .inl (g 1, 12, .inr (.inl (fun _ => 0)))), ((a 1), f_net a), ((a 2), f_book a)] s.heap.size) [(h0, .inl (g 1, 1, .inr (.inl (fun _ => 0)))), ((a 0), f_x a), ((a 3), f_rows a), ((a 4), f_words a), ((a 38), .inl (g 1, 12, .inr (.inl (fun _ => 0)))), ((a 39), .inl (g 1, 12, .inr (.inl (fun _ => 0)))), ((a 1), f_net a), ((a 2), f_book a)] := hD0.self
  have hP : va_P D vwCl [(h0, .inl (g 1, 1, .inr (.inl (fun _ => 0)))), ((a 0), f_x a), ((a 3), f_rows a), ((a 4), f_words a), ((a 38), .inl (g 1, 12, .inr (.inl (fun _ => 0)))), ((a 39), .inl (g 1, 12, .inr (.inl (fun _ => 0)))), ((a 1), f_net a), ((a 2), f_book a)] s.heap := hP0
  have hl : lv_has ls 4 [(0, .ref (a 0)), (1, .int p0), (2, .ref h0)] := hl
  refine lv_aload_n hx hb dL_escapes_0 rfl (lv_at hl 2 rfl) ?_
  refine lv_iconst (v := 0) hx hb dL_escapes_1 (by decide) ?_
  refine lv_aload_n hx hb dL_escapes_2 rfl (lv_at hl 0 rfl) ?_
  refine lv_iload_n hx hb dL_escapes_3 rfl (lv_at hl 1 rfl) ?_
  have hPc : va_P D vwCl [((a 0), f_x a), ((a 3), f_rows a), ((a 4), f_words a), ((a 38), .inl (g 1, 12, .inr (.inl (fun _ => 0)))), ((a 39), .inl (g 1, 12, .inr (.inl (fun _ => 0)))), ((a 1), f_net a), ((a 2), f_book a)] _ := hP.sub (ws' := [((a 0), f_x a), ((a 3), f_rows a), ((a 4), f_words a), ((a 38), .inl (g 1, 12, .inr (.inl (fun _ => 0)))), ((a 39), .inl (g 1, 12, .inr (.inl (fun _ => 0)))), ((a 1), f_net a), ((a 2), f_book a)]) [1, 2, 3, 4, 5, 6, 7] rfl
  have hDc : va_D (fun q => z0 ≤ q) [((a 0), f_x a), ((a 3), f_rows a), ((a 4), f_words a), ((a 38), .inl (g 1, 12, .inr (.inl (fun _ => 0)))), ((a 39), .inl (g 1, 12, .inr (.inl (fun _ => 0)))), ((a 1), f_net a), ((a 2), f_book a)] := (hD.to hAz).pick (ws' := [((a 0), f_x a), ((a 3), f_rows a), ((a 4), f_words a), ((a 38), .inl (g 1, 12, .inr (.inl (fun _ => 0)))), ((a 39), .inl (g 1, 12, .inr (.inl (fun _ => 0)))), ((a 1), f_net a), ((a 2), f_book a)]) [1, 2, 3, 4, 5, 6, 7] (by decide) rfl
  have hFc := va_free (wc := [((a 0), f_x a), ((a 3), f_rows a), ((a 4), f_words a), ((a 38), .inl (g 1, 12, .inr (.inl (fun _ => 0)))), ((a 39), .inl (g 1, 12, .inr (.inl (fun _ => 0)))), ((a 1), f_net a), ((a 2), f_book a)]) hD hS hA [1, 2, 3, 4, 5, 6, 7] rfl
  refine vx_calli (vx_runV (As := [.int p0]) (rest := [.int 0, .ref h0]) ⟨hx, hb, hml, hown, ht⟩ (k_X11_escapes l hfl D g z0 _ a p0) (cwV 1 ht (gV w_596 w_598 w_599 w_31 w_597) rfl rfl rfl (by decide +kernel) (le2 rfl rfl)) ⟨PP.blind, va_recv hK.1 hP (ci := 17) (q0 := 1) rfl rfl, PP.mk' hK hZ hz hAz hS hPc hDc⟩ rfl rfl hl.1 rfl (lv_room (Nat.le_of_ble_eq_true rfl)) dL_escapes_4 (le2 rfl rfl)) hS (fun q _ h => hFc q h) hFc (fun q _ h => hFc q h) (fun E ce q9 u t H locs ht1 hvm hw hB hz1 hk1 hS hcell hv9 hcl => ?_) (fun r u t H locs ht1 hvm hw hB hz1 hk1 hS => ?_)
  · obtain ⟨hP, hD⟩ := va_join (wr := [(h0, .inl (g 1, 1, .inr (.inl (fun _ => 0))))]) (w1 := []) hP hD [1, 2, 3, 4, 5, 6, 7] [0] rfl rfl (by decide) (by decide) hk1 hFc nil_P nil_D
    have hP : va_P D vwCl [(h0, .inl (g 1, 1, .inr (.inl (fun _ => 0))))] H := hP
    have hD : va_D (va_A [(h0, .inl (g 1, 1, .inr (.inl (fun _ => 0)))), ((a 0), f_x a), ((a 3), f_rows a), ((a 4), f_words a), ((a 38), .inl (g 1, 12, .inr (.inl (fun _ => 0)))), ((a 39), .inl (g 1, 12, .inr (.inl (fun _ => 0)))), ((a 1), f_net a), ((a 2), f_book a)] s.heap.size) [(h0, .inl (g 1, 1, .inr (.inl (fun _ => 0))))] := hD
    obtain ⟨rfl, hB⟩ := hB
    rcases hB with hB | hB
    · have c_1 := hB
      refine vx_catch hown [] ⟨0, 9, 12, 24⟩ [] (htab.trans rfl) (fun _ h9 => absurd h9 List.not_mem_nil) (by decide) (by decide) (ht _ w_540) (hK.2.2.use w_541) hcell hv9 hcl ?_
      refine W.eq (g2 := F0 m 12 ls [.ref q9]) rfl ?_
      refine lv_astore_n (lv' := [(3, .ref q9), (0, .ref (a 0)), (1, .int p0), (2, .ref h0)]) hx hb dL_escapes_12 rfl hl (by decide) rfl (fun ls hl => ?_)
      refine lv_iconst (v := 1) hx hb dL_escapes_13 (by decide) ?_
      have hP9 := hP.sub (ws' := [(h0, .inl (g 1, 1, .inr (.inl (fun _ => 0))))]) [0] rfl
      have hD9 := hD.sub (ws' := [(h0, .inl (g 1, 1, .inr (.inl (fun _ => 0))))]) [0] (by decide) rfl
      refine W.widen (k := 1) (n := 6) (Nat.le_of_ble_eq_true rfl) (Nat.le_of_ble_eq_true rfl) ?_
      exact W.iret (v := 1) hx hb hr (fun t ht9 hW9 => ⟨⟨1, (), rfl, (Or.inl ⟨rfl, (Or.inl c_1)⟩), ⟨(by rw [ht9]; exact hP9), hD9⟩⟩, hS.F ht9⟩) hS.2.2 dL_escapes_14 hlocks
    · obtain ⟨c_2, c_3⟩ := hB
      refine vx_catch hown [] ⟨0, 9, 12, 24⟩ [] (htab.trans rfl) (fun _ h9 => absurd h9 List.not_mem_nil) (by decide) (by decide) (ht _ w_540) (hK.2.2.use w_541) hcell hv9 hcl ?_
      refine W.eq (g2 := F0 m 12 ls [.ref q9]) rfl ?_
      refine lv_astore_n (lv' := [(3, .ref q9), (0, .ref (a 0)), (1, .int p0), (2, .ref h0)]) hx hb dL_escapes_12 rfl hl (by decide) rfl (fun ls hl => ?_)
      refine lv_iconst (v := 1) hx hb dL_escapes_13 (by decide) ?_
      have hP9 := hP.sub (ws' := [(h0, .inl (g 1, 1, .inr (.inl (fun _ => 0))))]) [0] rfl
      have hD9 := hD.sub (ws' := [(h0, .inl (g 1, 1, .inr (.inl (fun _ => 0))))]) [0] (by decide) rfl
      refine W.widen (k := 1) (n := 6) (Nat.le_of_ble_eq_true rfl) (Nat.le_of_ble_eq_true rfl) ?_
      exact W.iret (v := 1) hx hb hr (fun t ht9 hW9 => ⟨⟨1, (), rfl, (Or.inl ⟨rfl, (Or.inr ⟨c_2, c_3⟩)⟩), ⟨(by rw [ht9]; exact hP9), hD9⟩⟩, hS.F ht9⟩) hS.2.2 dL_escapes_14 hlocks
  · obtain ⟨rfl, hw⟩ := hw
    obtain ⟨c_4, c_5⟩ := hw
    obtain ⟨hP1, hD1⟩ := hB
    rw [ht1] at hP1
    obtain ⟨hP, hD⟩ := va_join (wr := [(h0, .inl (g 1, 1, .inr (.inl (fun _ => 0))))]) (w1 := []) hP hD [1, 2, 3, 4, 5, 6, 7] [0] rfl rfl (by decide) (by decide) hk1 hFc hP1 hD1
    have hP : va_P D vwCl [(h0, .inl (g 1, 1, .inr (.inl (fun _ => 0))))] H := hP
    have hD : va_D (va_A [(h0, .inl (g 1, 1, .inr (.inl (fun _ => 0)))), ((a 0), f_x a), ((a 3), f_rows a), ((a 4), f_words a), ((a 38), .inl (g 1, 12, .inr (.inl (fun _ => 0)))), ((a 39), .inl (g 1, 12, .inr (.inl (fun _ => 0)))), ((a 1), f_net a), ((a 2), f_book a)] s.heap.size) [(h0, .inl (g 1, 1, .inr (.inl (fun _ => 0))))] := hD
    refine lv_i2l (v := 0) hx hb dL_escapes_7 (by decide) ?_
    refine va_last hx hb hK.1 hP hD hS 0 1 rfl rfl (by unfold vp_in; decide) dL_escapes_8 (fun H locs hP hD hS => ?_)
    have hP : va_P D vwCl [(h0, .inl (g 1, 1, .inr (.inl (vp_updL (fun _ => 0) (0 : Int32).toNatClampNeg 0))))] H := hP
    have hD : va_D (va_A [(h0, .inl (g 1, 1, .inr (.inl (fun _ => 0)))), ((a 0), f_x a), ((a 3), f_rows a), ((a 4), f_words a), ((a 38), .inl (g 1, 12, .inr (.inl (fun _ => 0)))), ((a 39), .inl (g 1, 12, .inr (.inl (fun _ => 0)))), ((a 1), f_net a), ((a 2), f_book a)] s.heap.size) [(h0, .inl (g 1, 1, .inr (.inl (vp_updL (fun _ => 0) (0 : Int32).toNatClampNeg 0))))] := hD
    have hP := one_up (v := 0) hP 0 rfl rfl
    have hD := va_D.set (p := 0) (e := .inl (g 1, 1, .inr (.inl (fun _ => 0)))) hD rfl
    have hP : va_P D vwCl [(h0, .inl (g 1, 1, .inr (.inl (fun _ => 0))))] H := hP
    have hD : va_D (va_A [(h0, .inl (g 1, 1, .inr (.inl (fun _ => 0)))), ((a 0), f_x a), ((a 3), f_rows a), ((a 4), f_words a), ((a 38), .inl (g 1, 12, .inr (.inl (fun _ => 0)))), ((a 39), .inl (g 1, 12, .inr (.inl (fun _ => 0)))), ((a 1), f_net a), ((a 2), f_book a)] s.heap.size) [(h0, .inl (g 1, 1, .inr (.inl (fun _ => 0))))] := hD
    refine lv_goto (tgt := 15) hx hb dL_escapes_9 (by decide) ?_
    refine lv_iconst (v := 0) hx hb dL_escapes_15 (by decide) ?_
    have hP9 := hP.sub (ws' := [(h0, .inl (g 1, 1, .inr (.inl (fun _ => 0))))]) [0] rfl
    have hD9 := hD.sub (ws' := [(h0, .inl (g 1, 1, .inr (.inl (fun _ => 0))))]) [0] (by decide) rfl
    refine W.widen (k := 1) (n := 6) (Nat.le_of_ble_eq_true rfl) (Nat.le_of_ble_eq_true rfl) ?_
    exact W.iret (v := 0) hx hb hr (fun t ht9 hW9 => ⟨⟨0, (), rfl, (Or.inr ⟨rfl, ⟨c_4, c_5⟩⟩), ⟨(by rw [ht9]; exact hP9), hD9⟩⟩, hS.F ht9⟩) hS.2.2 dL_escapes_16 hlocks
set_option maxHeartbeats 4000000 in
set_option maxRecDepth 100000 in
theorem k_L_fails (l : Launch) (hfl : l.stackTraces = false) (D : va_G) (g : Nat → ClassId) (z0 sz : Nat) (a : Nat → Nat) (p0 : Int32) (h0 : Nat) : Met l yL_fails (.codeWith yL_fails cL_fails 4 (some .int) [(0, 8, 11, 26)] :: TG) (rmk 8 1 6 123) (va_Pc [.ref (a 0), .int p0, .ref h0] (PP D g z0 sz [(h0, .inl (g 1, 1, .inr (.inl (fun _ => 0)))), ((a 0), f_x a), ((a 3), f_rows a)])) (va_Qi (fun (r : Int32) (u : Unit) => (r = 1) ∧ True) (fun (u : Unit) (t : State) => va_P D vwCl [(h0, .inl (g 1, 1, .inr (.inl (fun _ => 0))))] t.heap ∧ va_D (va_A [(h0, .inl (g 1, 1, .inr (.inl (fun _ => 0)))), ((a 0), f_x a), ((a 3), f_rows a)] sz) [(h0, .inl (g 1, 1, .inr (.inl (fun _ => 0))))]) (va_A [(h0, .inl (g 1, 1, .inr (.inl (fun _ => 0)))), ((a 0), f_x a), ((a 3), f_rows a)] sz)) 1 6 (va_A [(h0, .inl (g 1, 1, .inr (.inl (fun _ => 0)))), ((a 0), f_x a), ((a 3), f_rows a)] sz) := by
  refine metW0 (cc := cL_fails) (n := 4) (hh := [(0, 8, 11, 26)]) (by decide) (Nat.le_of_ble_eq_true rfl) ?_
  intro p e s m args below meth c hx hb hr hml htab hown ht hlocks hnm hP0 hD0 hK hZ hsz hz ls hl
  subst hsz
  have hA : ∀ q : Nat, s.heap.size ≤ q → va_A [(h0, .inl (g 1, 1, .inr (.inl (fun _ => 0)))), ((a 0), f_x a), ((a 3), f_rows a)] s.heap.size q := Anw
  have hAz : ∀ q, va_A [(h0, .inl (g 1, 1, .inr (.inl (fun _ => 0)))), ((a 0), f_x a), ((a 3), f_rows a)] s.heap.size q → z0 ≤ q := Awz hz hD0
  have hS : va_S (va_A [(h0, .inl (g 1, 1, .inr (.inl (fun _ => 0)))), ((a 0), f_x a), ((a 3), f_rows a)] s.heap.size) s.heap s.heap [] := va_S.rf
  have hD : va_D (va_A [(h0, .inl (g 1, 1, .inr (.inl (fun _ => 0)))), ((a 0), f_x a), ((a 3), f_rows a)] s.heap.size) [(h0, .inl (g 1, 1, .inr (.inl (fun _ => 0)))), ((a 0), f_x a), ((a 3), f_rows a)] := hD0.self
  have hP : va_P D vwCl [(h0, .inl (g 1, 1, .inr (.inl (fun _ => 0)))), ((a 0), f_x a), ((a 3), f_rows a)] s.heap := hP0
  have hl : lv_has ls 4 [(0, .ref (a 0)), (1, .int p0), (2, .ref h0)] := hl
  refine lv_aload_n hx hb dL_fails_0 rfl (lv_at hl 2 rfl) ?_
  refine lv_iconst (v := 0) hx hb dL_fails_1 (by decide) ?_
  refine lv_aload_n hx hb dL_fails_2 rfl (lv_at hl 0 rfl) ?_
  refine lv_iload_n hx hb dL_fails_3 rfl (lv_at hl 1 rfl) ?_
  have hPc : va_P D vwCl [((a 0), f_x a), ((a 3), f_rows a)] _ := hP.sub (ws' := [((a 0), f_x a), ((a 3), f_rows a)]) [1, 2] rfl
  have hDc : va_D (fun q => z0 ≤ q) [((a 0), f_x a), ((a 3), f_rows a)] := (hD.to hAz).pick (ws' := [((a 0), f_x a), ((a 3), f_rows a)]) [1, 2] (by decide) rfl
  have hFc := AnA (ws := [(h0, .inl (g 1, 1, .inr (.inl (fun _ => 0)))), ((a 0), f_x a), ((a 3), f_rows a)]) hS.1
  refine vx_calll (vx_runV (As := [.int p0]) (rest := [.int 0, .ref h0]) ⟨hx, hb, hml, hown, ht⟩ (k_X11_fails l hfl D g z0 _ a p0) (cwV 1 ht (gV w_600 w_602 w_603 w_31 w_601) rfl rfl rfl (by decide +kernel) (le2 rfl rfl)) ⟨PP.blind, va_recv hK.1 hP (ci := 17) (q0 := 1) rfl rfl, PP.mk' hK hZ hz hAz hS hPc hDc⟩ rfl rfl hl.1 rfl (lv_room (Nat.le_of_ble_eq_true rfl)) dL_fails_4 (le2 rfl rfl)) hS (fun q _ h => hFc q h) hFc (fun q _ h => hFc q h) (fun E ce q9 u t H locs ht1 hvm hw hB hz1 hk1 hS hcell hv9 hcl => ?_) (fun r u t H locs ht1 hvm hw hB hz1 hk1 hS => ?_)
  · have hP := ro1 hP hk1
    obtain ⟨rfl, hB⟩ := hB
    refine vx_catch hown [] ⟨0, 8, 11, 26⟩ [] (htab.trans rfl) (fun _ h9 => absurd h9 List.not_mem_nil) (by decide) (by decide) (ht _ w_534) (hK.2.2.use w_535) hcell hv9 hcl ?_
    refine W.eq (g2 := F0 m 11 ls [.ref q9]) rfl ?_
    refine lv_astore_n (lv' := [(3, .ref q9), (0, .ref (a 0)), (1, .int p0), (2, .ref h0)]) hx hb dL_fails_11 rfl hl (by decide) rfl (fun ls hl => ?_)
    refine lv_iconst (v := 1) hx hb dL_fails_12 (by decide) ?_
    have hP9 := hP.sub (ws' := [(h0, .inl (g 1, 1, .inr (.inl (fun _ => 0))))]) [0] rfl
    have hD9 := hD.sub (ws' := [(h0, .inl (g 1, 1, .inr (.inl (fun _ => 0))))]) [0] (by decide) rfl
    refine W.widen (k := 1) (n := 6) (Nat.le_of_ble_eq_true rfl) (Nat.le_of_ble_eq_true rfl) ?_
    exact W.iret (v := 1) hx hb hr (fun t ht9 hW9 => ⟨⟨1, (), rfl, ⟨rfl, trivial⟩, ⟨(by rw [ht9]; exact hP9), hD9⟩⟩, hS.F ht9⟩) hS.2.2 dL_fails_13 hlocks
  · exact hw.elim
set_option maxHeartbeats 4000000 in
set_option maxRecDepth 100000 in
theorem k_L_faulty (l : Launch) (hfl : l.stackTraces = false) (D : va_G) (g : Nat → ClassId) (z0 sz : Nat) (a : Nat → Nat) (p0 : Int32) (p1 : Int32) (p2 : Int32) (h0 : Nat) : Met l yL_faulty (.codeWith yL_faulty cL_faulty 6 (some .int) [(0, 12, 15, 26)] :: TG) (rmk 8 1 6 125) (va_Pc [.ref (a 0), .int p0, .int p1, .int p2, .ref h0] (PP D g z0 sz [(h0, .inl (g 1, 1, .inr (.inl (fun _ => 0)))), ((a 0), f_x a), ((a 3), f_rows a)])) (va_Qi (fun (r : Int32) (u : Unit) => (r = 1) ∧ True) (fun (u : Unit) (t : State) => va_P D vwCl [(h0, .inl (g 1, 1, .inr (.inl (fun _ => 0))))] t.heap ∧ va_D (va_A [(h0, .inl (g 1, 1, .inr (.inl (fun _ => 0)))), ((a 0), f_x a), ((a 3), f_rows a)] sz) [(h0, .inl (g 1, 1, .inr (.inl (fun _ => 0))))]) (va_A [(h0, .inl (g 1, 1, .inr (.inl (fun _ => 0)))), ((a 0), f_x a), ((a 3), f_rows a)] sz)) 1 6 (va_A [(h0, .inl (g 1, 1, .inr (.inl (fun _ => 0)))), ((a 0), f_x a), ((a 3), f_rows a)] sz) := by
  refine metW0 (cc := cL_faulty) (n := 6) (hh := [(0, 12, 15, 26)]) (by decide) (Nat.le_of_ble_eq_true rfl) ?_
  intro p e s m args below meth c hx hb hr hml htab hown ht hlocks hnm hP0 hD0 hK hZ hsz hz ls hl
  subst hsz
  have hA : ∀ q : Nat, s.heap.size ≤ q → va_A [(h0, .inl (g 1, 1, .inr (.inl (fun _ => 0)))), ((a 0), f_x a), ((a 3), f_rows a)] s.heap.size q := Anw
  have hAz : ∀ q, va_A [(h0, .inl (g 1, 1, .inr (.inl (fun _ => 0)))), ((a 0), f_x a), ((a 3), f_rows a)] s.heap.size q → z0 ≤ q := Awz hz hD0
  have hS : va_S (va_A [(h0, .inl (g 1, 1, .inr (.inl (fun _ => 0)))), ((a 0), f_x a), ((a 3), f_rows a)] s.heap.size) s.heap s.heap [] := va_S.rf
  have hD : va_D (va_A [(h0, .inl (g 1, 1, .inr (.inl (fun _ => 0)))), ((a 0), f_x a), ((a 3), f_rows a)] s.heap.size) [(h0, .inl (g 1, 1, .inr (.inl (fun _ => 0)))), ((a 0), f_x a), ((a 3), f_rows a)] := hD0.self
  have hP : va_P D vwCl [(h0, .inl (g 1, 1, .inr (.inl (fun _ => 0)))), ((a 0), f_x a), ((a 3), f_rows a)] s.heap := hP0
  have hl : lv_has ls 6 [(0, .ref (a 0)), (1, .int p0), (2, .int p1), (3, .int p2), (4, .ref h0)] := hl
  refine lv_aload hx hb dL_faulty_0 (lv_at hl 4 rfl) ?_
  refine lv_iconst (v := 0) hx hb dL_faulty_2 (by decide) ?_
  refine lv_aload_n hx hb dL_faulty_3 rfl (lv_at hl 0 rfl) ?_
  refine lv_iload_n hx hb dL_faulty_4 rfl (lv_at hl 1 rfl) ?_
  refine lv_iload_n hx hb dL_faulty_5 rfl (lv_at hl 2 rfl) ?_
  refine lv_iload_n hx hb dL_faulty_6 rfl (lv_at hl 3 rfl) ?_
  have hPc : va_P D vwCl [((a 0), f_x a), ((a 3), f_rows a)] _ := hP.sub (ws' := [((a 0), f_x a), ((a 3), f_rows a)]) [1, 2] rfl
  have hDc : va_D (fun q => z0 ≤ q) [((a 0), f_x a), ((a 3), f_rows a)] := (hD.to hAz).pick (ws' := [((a 0), f_x a), ((a 3), f_rows a)]) [1, 2] (by decide) rfl
  have hFc := AnA (ws := [(h0, .inl (g 1, 1, .inr (.inl (fun _ => 0)))), ((a 0), f_x a), ((a 3), f_rows a)]) hS.1
  refine vx_calli (vx_runV (As := [.int p0, .int p1, .int p2]) (rest := [.int 0, .ref h0]) ⟨hx, hb, hml, hown, ht⟩ (k_X11_faulty l hfl D g z0 _ a p0 p1 p2) (cwV 3 ht (gV w_604 w_606 w_607 w_31 w_605) rfl rfl rfl (by decide +kernel) (le2 rfl rfl)) ⟨PP.blind, va_recv hK.1 hP (ci := 17) (q0 := 1) rfl rfl, PP.mk' hK hZ hz hAz hS hPc hDc⟩ rfl rfl hl.1 rfl (lv_room (Nat.le_of_ble_eq_true rfl)) dL_faulty_7 (le2 rfl rfl)) hS (fun q _ h => hFc q h) hFc (fun q _ h => hFc q h) (fun E ce q9 u t H locs ht1 hvm hw hB hz1 hk1 hS hcell hv9 hcl => ?_) (fun r u t H locs ht1 hvm hw hB hz1 hk1 hS => ?_)
  · have hP := ro1 hP hk1
    obtain ⟨rfl, hB⟩ := hB
    refine vx_catch hown [] ⟨0, 12, 15, 26⟩ [] (htab.trans rfl) (fun _ h9 => absurd h9 List.not_mem_nil) (by decide) (by decide) (ht _ w_534) (hK.2.2.use w_535) hcell hv9 hcl ?_
    refine W.eq (g2 := F0 m 15 ls [.ref q9]) rfl ?_
    refine lv_astore (lv' := [(5, .ref q9), (0, .ref (a 0)), (1, .int p0), (2, .int p1), (3, .int p2), (4, .ref h0)]) hx hb dL_faulty_15 hl (by decide) rfl (fun ls hl => ?_)
    refine lv_iconst (v := 1) hx hb dL_faulty_17 (by decide) ?_
    have hP9 := hP.sub (ws' := [(h0, .inl (g 1, 1, .inr (.inl (fun _ => 0))))]) [0] rfl
    have hD9 := hD.sub (ws' := [(h0, .inl (g 1, 1, .inr (.inl (fun _ => 0))))]) [0] (by decide) rfl
    refine W.widen (k := 1) (n := 6) (Nat.le_of_ble_eq_true rfl) (Nat.le_of_ble_eq_true rfl) ?_
    exact W.iret (v := 1) hx hb hr (fun t ht9 hW9 => ⟨⟨1, (), rfl, ⟨rfl, trivial⟩, ⟨(by rw [ht9]; exact hP9), hD9⟩⟩, hS.F ht9⟩) hS.2.2 dL_faulty_18 hlocks
  · exact hw.elim
set_option maxHeartbeats 4000000 in
set_option maxRecDepth 100000 in
theorem k_L_fill (l : Launch) (hfl : l.stackTraces = false) (D : va_G) (g : Nat → ClassId) (z0 sz : Nat) (a : Nat → Nat) (p0 : Int32) (p1 : Int32) (h0 : Nat) (hc_p1 : isC p1) : Met l yL_fill (.codeWith yL_fill cL_fill 5 (some .int) [(0, 10, 13, 26), (0, 10, 17, 24)] :: TG) (rmk 8 1 6 124) (va_Pc [.ref (a 0), .int p0, .int p1, .ref h0] (PP D g z0 sz [(h0, .inl (g 1, 1, .inr (.inl (fun _ => 0)))), ((a 0), f_x a), ((a 3), f_rows a)])) (va_Qi (fun (r : Int32) (u : Unit) => (r = 1) ∧ True) (fun (u : Unit) (t : State) => va_P D vwCl [(h0, .inl (g 1, 1, .inr (.inl (fun _ => 0))))] t.heap ∧ va_D (va_A [(h0, .inl (g 1, 1, .inr (.inl (fun _ => 0)))), ((a 0), f_x a), ((a 3), f_rows a)] sz) [(h0, .inl (g 1, 1, .inr (.inl (fun _ => 0))))]) (va_A [(h0, .inl (g 1, 1, .inr (.inl (fun _ => 0)))), ((a 0), f_x a), ((a 3), f_rows a)] sz)) 1 6 (va_A [(h0, .inl (g 1, 1, .inr (.inl (fun _ => 0)))), ((a 0), f_x a), ((a 3), f_rows a)] sz) := by
  refine metW0 (cc := cL_fill) (n := 5) (hh := [(0, 10, 13, 26), (0, 10, 17, 24)]) (by decide) (Nat.le_of_ble_eq_true rfl) ?_
  intro p e s m args below meth c hx hb hr hml htab hown ht hlocks hnm hP0 hD0 hK hZ hsz hz ls hl
  subst hsz
  have hA : ∀ q : Nat, s.heap.size ≤ q → va_A [(h0, .inl (g 1, 1, .inr (.inl (fun _ => 0)))), ((a 0), f_x a), ((a 3), f_rows a)] s.heap.size q := Anw
  have hAz : ∀ q, va_A [(h0, .inl (g 1, 1, .inr (.inl (fun _ => 0)))), ((a 0), f_x a), ((a 3), f_rows a)] s.heap.size q → z0 ≤ q := Awz hz hD0
  have hS : va_S (va_A [(h0, .inl (g 1, 1, .inr (.inl (fun _ => 0)))), ((a 0), f_x a), ((a 3), f_rows a)] s.heap.size) s.heap s.heap [] := va_S.rf
  have hD : va_D (va_A [(h0, .inl (g 1, 1, .inr (.inl (fun _ => 0)))), ((a 0), f_x a), ((a 3), f_rows a)] s.heap.size) [(h0, .inl (g 1, 1, .inr (.inl (fun _ => 0)))), ((a 0), f_x a), ((a 3), f_rows a)] := hD0.self
  have hP : va_P D vwCl [(h0, .inl (g 1, 1, .inr (.inl (fun _ => 0)))), ((a 0), f_x a), ((a 3), f_rows a)] s.heap := hP0
  have hl : lv_has ls 5 [(0, .ref (a 0)), (1, .int p0), (2, .int p1), (3, .ref h0)] := hl
  refine lv_aload_n hx hb dL_fill_0 rfl (lv_at hl 3 rfl) ?_
  refine lv_iconst (v := 0) hx hb dL_fill_1 (by decide) ?_
  refine lv_aload_n hx hb dL_fill_2 rfl (lv_at hl 0 rfl) ?_
  refine lv_iload_n hx hb dL_fill_3 rfl (lv_at hl 1 rfl) ?_
  refine lv_iload_n hx hb dL_fill_4 rfl (lv_at hl 2 rfl) ?_
  have hPc : va_P D vwCl [((a 0), f_x a), ((a 3), f_rows a)] _ := hP.sub (ws' := [((a 0), f_x a), ((a 3), f_rows a)]) [1, 2] rfl
  have hDc : va_D (fun q => z0 ≤ q) [((a 0), f_x a), ((a 3), f_rows a)] := (hD.to hAz).pick (ws' := [((a 0), f_x a), ((a 3), f_rows a)]) [1, 2] (by decide) rfl
  have hFc := AnA (ws := [(h0, .inl (g 1, 1, .inr (.inl (fun _ => 0)))), ((a 0), f_x a), ((a 3), f_rows a)]) hS.1
  refine vx_calli (vx_runV (As := [.int p0, .int p1]) (rest := [.int 0, .ref h0]) ⟨hx, hb, hml, hown, ht⟩ (k_X11_fill l hfl D g z0 _ a p0 p1 hc_p1) (cwV 2 ht (gV w_608 w_610 w_611 w_31 w_609) rfl rfl rfl (by decide +kernel) (le2 rfl rfl)) ⟨PP.blind, va_recv hK.1 hP (ci := 17) (q0 := 1) rfl rfl, PP.mk' hK hZ hz hAz hS hPc hDc⟩ rfl rfl hl.1 rfl (lv_room (Nat.le_of_ble_eq_true rfl)) dL_fill_5 (le2 rfl rfl)) hS (fun q _ h => hFc q h) hFc (fun q _ h => hFc q h) (fun E ce q9 u t H locs ht1 hvm hw hB hz1 hk1 hS hcell hv9 hcl => ?_) (fun r u t H locs ht1 hvm hw hB hz1 hk1 hS => ?_)
  · have hP := ro1 hP hk1
    obtain ⟨rfl, hB⟩ := hB
    refine vx_catch hown [] ⟨0, 10, 13, 26⟩ [⟨0, 10, 17, 24⟩] (htab.trans rfl) (fun _ h9 => absurd h9 List.not_mem_nil) (by decide) (by decide) (ht _ w_534) (hK.2.2.use w_535) hcell hv9 hcl ?_
    refine W.eq (g2 := F0 m 13 ls [.ref q9]) rfl ?_
    refine lv_astore (lv' := [(4, .ref q9), (0, .ref (a 0)), (1, .int p0), (2, .int p1), (3, .ref h0)]) hx hb dL_fill_13 hl (by decide) rfl (fun ls hl => ?_)
    refine lv_iconst (v := 1) hx hb dL_fill_15 (by decide) ?_
    have hP9 := hP.sub (ws' := [(h0, .inl (g 1, 1, .inr (.inl (fun _ => 0))))]) [0] rfl
    have hD9 := hD.sub (ws' := [(h0, .inl (g 1, 1, .inr (.inl (fun _ => 0))))]) [0] (by decide) rfl
    refine W.widen (k := 1) (n := 6) (Nat.le_of_ble_eq_true rfl) (Nat.le_of_ble_eq_true rfl) ?_
    exact W.iret (v := 1) hx hb hr (fun t ht9 hW9 => ⟨⟨1, (), rfl, ⟨rfl, trivial⟩, ⟨(by rw [ht9]; exact hP9), hD9⟩⟩, hS.F ht9⟩) hS.2.2 dL_fill_16 hlocks
  · exact hw.elim
set_option maxHeartbeats 4000000 in
set_option maxRecDepth 100000 in
theorem k_L_finds (l : Launch) (hfl : l.stackTraces = false) (D : va_G) (g : Nat → ClassId) (z0 sz : Nat) (a : Nat → Nat) (p0 : Int32) (p1 : Int32) (p2 : Int32) (h0 : Nat) (hc_p2 : isC p2) : Met l yL_finds (.codeWith yL_finds cL_finds 6 (some .int) [(0, 19, 22, 26), (0, 19, 26, 24)] :: TG) (rmk 8 1 6 125) (va_Pc [.ref (a 0), .int p0, .int p1, .int p2, .ref h0] (PP D g z0 sz [(h0, .inl (g 1, 1, .inr (.inl (fun _ => 0)))), ((a 0), f_x a), ((a 2), f_book a)])) (va_Qi (fun (r : Int32) (u : Unit) => (r = 1) ∧ True) (fun (u : Unit) (t : State) => va_P D vwCl [(h0, .inl (g 1, 1, .inr (.inl (fun _ => 0))))] t.heap ∧ va_D (va_A [(h0, .inl (g 1, 1, .inr (.inl (fun _ => 0)))), ((a 0), f_x a), ((a 2), f_book a)] sz) [(h0, .inl (g 1, 1, .inr (.inl (fun _ => 0))))]) (va_A [(h0, .inl (g 1, 1, .inr (.inl (fun _ => 0)))), ((a 0), f_x a), ((a 2), f_book a)] sz)) 1 6 (va_A [(h0, .inl (g 1, 1, .inr (.inl (fun _ => 0)))), ((a 0), f_x a), ((a 2), f_book a)] sz) := by
  refine metW0 (cc := cL_finds) (n := 6) (hh := [(0, 19, 22, 26), (0, 19, 26, 24)]) (by decide) (Nat.le_of_ble_eq_true rfl) ?_
  intro p e s m args below meth c hx hb hr hml htab hown ht hlocks hnm hP0 hD0 hK hZ hsz hz ls hl
  subst hsz
  have hA : ∀ q : Nat, s.heap.size ≤ q → va_A [(h0, .inl (g 1, 1, .inr (.inl (fun _ => 0)))), ((a 0), f_x a), ((a 2), f_book a)] s.heap.size q := Anw
  have hAz : ∀ q, va_A [(h0, .inl (g 1, 1, .inr (.inl (fun _ => 0)))), ((a 0), f_x a), ((a 2), f_book a)] s.heap.size q → z0 ≤ q := Awz hz hD0
  have hS : va_S (va_A [(h0, .inl (g 1, 1, .inr (.inl (fun _ => 0)))), ((a 0), f_x a), ((a 2), f_book a)] s.heap.size) s.heap s.heap [] := va_S.rf
  have hD : va_D (va_A [(h0, .inl (g 1, 1, .inr (.inl (fun _ => 0)))), ((a 0), f_x a), ((a 2), f_book a)] s.heap.size) [(h0, .inl (g 1, 1, .inr (.inl (fun _ => 0)))), ((a 0), f_x a), ((a 2), f_book a)] := hD0.self
  have hP : va_P D vwCl [(h0, .inl (g 1, 1, .inr (.inl (fun _ => 0)))), ((a 0), f_x a), ((a 2), f_book a)] s.heap := hP0
  have hl : lv_has ls 6 [(0, .ref (a 0)), (1, .int p0), (2, .int p1), (3, .int p2), (4, .ref h0)] := hl
  refine lv_aload hx hb dL_finds_0 (lv_at hl 4 rfl) ?_
  refine lv_iconst (v := 0) hx hb dL_finds_2 (by decide) ?_
  refine lv_aload_n hx hb dL_finds_3 rfl (lv_at hl 0 rfl) ?_
  refine lv_iload_n hx hb dL_finds_4 rfl (lv_at hl 1 rfl) ?_
  refine lv_iload_n hx hb dL_finds_5 rfl (lv_at hl 2 rfl) ?_
  refine lv_iload_n hx hb dL_finds_6 rfl (lv_at hl 3 rfl) ?_
  have hPc : va_P D vwCl [((a 0), f_x a), ((a 2), f_book a)] _ := hP.sub (ws' := [((a 0), f_x a), ((a 2), f_book a)]) [1, 2] rfl
  have hDc : va_D (fun q => z0 ≤ q) [((a 0), f_x a), ((a 2), f_book a)] := (hD.to hAz).pick (ws' := [((a 0), f_x a), ((a 2), f_book a)]) [1, 2] (by decide) rfl
  have hFc := AnA (ws := [(h0, .inl (g 1, 1, .inr (.inl (fun _ => 0)))), ((a 0), f_x a), ((a 2), f_book a)]) hS.1
  refine vx_calli (vx_runV (As := [.int p0, .int p1, .int p2]) (rest := [.int 0, .ref h0]) ⟨hx, hb, hml, hown, ht⟩ (k_X11_finds l hfl D g z0 _ a p0 p1 p2 hc_p2) (cwV 3 ht (gV w_612 w_614 w_615 w_31 w_613) rfl rfl rfl (by decide +kernel) (le2 rfl rfl)) ⟨PP.blind, va_recv hK.1 hP (ci := 17) (q0 := 1) rfl rfl, PP.mk' hK hZ hz hAz hS hPc hDc⟩ rfl rfl hl.1 rfl (lv_room (Nat.le_of_ble_eq_true rfl)) dL_finds_7 (le2 rfl rfl)) hS (fun q _ h => hFc q h) hFc (fun q _ h => hFc q h) (fun E ce q9 u t H locs ht1 hvm hw hB hz1 hk1 hS hcell hv9 hcl => ?_) (fun r u t H locs ht1 hvm hw hB hz1 hk1 hS => ?_)
  · have hP := ro1 hP hk1
    obtain ⟨rfl, hB⟩ := hB
    refine vx_catch hown [] ⟨0, 19, 22, 26⟩ [⟨0, 19, 26, 24⟩] (htab.trans rfl) (fun _ h9 => absurd h9 List.not_mem_nil) (by decide) (by decide) (ht _ w_534) (hK.2.2.use w_535) hcell hv9 hcl ?_
    refine W.eq (g2 := F0 m 22 ls [.ref q9]) rfl ?_
    refine lv_astore (lv' := [(5, .ref q9), (0, .ref (a 0)), (1, .int p0), (2, .int p1), (3, .int p2), (4, .ref h0)]) hx hb dL_finds_22 hl (by decide) rfl (fun ls hl => ?_)
    refine lv_iconst (v := 1) hx hb dL_finds_24 (by decide) ?_
    have hP9 := hP.sub (ws' := [(h0, .inl (g 1, 1, .inr (.inl (fun _ => 0))))]) [0] rfl
    have hD9 := hD.sub (ws' := [(h0, .inl (g 1, 1, .inr (.inl (fun _ => 0))))]) [0] (by decide) rfl
    refine W.widen (k := 1) (n := 6) (Nat.le_of_ble_eq_true rfl) (Nat.le_of_ble_eq_true rfl) ?_
    exact W.iret (v := 1) hx hb hr (fun t ht9 hW9 => ⟨⟨1, (), rfl, ⟨rfl, trivial⟩, ⟨(by rw [ht9]; exact hP9), hD9⟩⟩, hS.F ht9⟩) hS.2.2 dL_finds_25 hlocks
  · exact hw.elim
set_option maxHeartbeats 4000000 in
set_option maxRecDepth 100000 in
theorem k_L_foundBy (l : Launch) (hfl : l.stackTraces = false) (D : va_G) (g : Nat → ClassId) (z0 sz : Nat) (a : Nat → Nat) (p0 : Int32) (h0 : Nat) : Met l yL_foundBy (.codeWith yL_foundBy cL_foundBy 4 (some .int) [(0, 8, 11, 26)] :: TG) (rmk 8 1 6 123) (va_Pc [.ref (a 0), .int p0, .ref h0] (PP D g z0 sz [(h0, .inl (g 1, 1, .inr (.inl (fun _ => 0)))), ((a 0), f_x a), ((a 2), f_book a)])) (va_Qi (fun (r : Int32) (u : Unit) => (r = 1) ∧ True) (fun (u : Unit) (t : State) => va_P D vwCl [(h0, .inl (g 1, 1, .inr (.inl (fun _ => 0))))] t.heap ∧ va_D (va_A [(h0, .inl (g 1, 1, .inr (.inl (fun _ => 0)))), ((a 0), f_x a), ((a 2), f_book a)] sz) [(h0, .inl (g 1, 1, .inr (.inl (fun _ => 0))))]) (va_A [(h0, .inl (g 1, 1, .inr (.inl (fun _ => 0)))), ((a 0), f_x a), ((a 2), f_book a)] sz)) 1 6 (va_A [(h0, .inl (g 1, 1, .inr (.inl (fun _ => 0)))), ((a 0), f_x a), ((a 2), f_book a)] sz) := by
  refine metW0 (cc := cL_foundBy) (n := 4) (hh := [(0, 8, 11, 26)]) (by decide) (Nat.le_of_ble_eq_true rfl) ?_
  intro p e s m args below meth c hx hb hr hml htab hown ht hlocks hnm hP0 hD0 hK hZ hsz hz ls hl
  subst hsz
  have hA : ∀ q : Nat, s.heap.size ≤ q → va_A [(h0, .inl (g 1, 1, .inr (.inl (fun _ => 0)))), ((a 0), f_x a), ((a 2), f_book a)] s.heap.size q := Anw
  have hAz : ∀ q, va_A [(h0, .inl (g 1, 1, .inr (.inl (fun _ => 0)))), ((a 0), f_x a), ((a 2), f_book a)] s.heap.size q → z0 ≤ q := Awz hz hD0
  have hS : va_S (va_A [(h0, .inl (g 1, 1, .inr (.inl (fun _ => 0)))), ((a 0), f_x a), ((a 2), f_book a)] s.heap.size) s.heap s.heap [] := va_S.rf
  have hD : va_D (va_A [(h0, .inl (g 1, 1, .inr (.inl (fun _ => 0)))), ((a 0), f_x a), ((a 2), f_book a)] s.heap.size) [(h0, .inl (g 1, 1, .inr (.inl (fun _ => 0)))), ((a 0), f_x a), ((a 2), f_book a)] := hD0.self
  have hP : va_P D vwCl [(h0, .inl (g 1, 1, .inr (.inl (fun _ => 0)))), ((a 0), f_x a), ((a 2), f_book a)] s.heap := hP0
  have hl : lv_has ls 4 [(0, .ref (a 0)), (1, .int p0), (2, .ref h0)] := hl
  refine lv_aload_n hx hb dL_foundBy_0 rfl (lv_at hl 2 rfl) ?_
  refine lv_iconst (v := 0) hx hb dL_foundBy_1 (by decide) ?_
  refine lv_aload_n hx hb dL_foundBy_2 rfl (lv_at hl 0 rfl) ?_
  refine lv_iload_n hx hb dL_foundBy_3 rfl (lv_at hl 1 rfl) ?_
  have hPc : va_P D vwCl [((a 0), f_x a), ((a 2), f_book a)] _ := hP.sub (ws' := [((a 0), f_x a), ((a 2), f_book a)]) [1, 2] rfl
  have hDc : va_D (fun q => z0 ≤ q) [((a 0), f_x a), ((a 2), f_book a)] := (hD.to hAz).pick (ws' := [((a 0), f_x a), ((a 2), f_book a)]) [1, 2] (by decide) rfl
  have hFc := AnA (ws := [(h0, .inl (g 1, 1, .inr (.inl (fun _ => 0)))), ((a 0), f_x a), ((a 2), f_book a)]) hS.1
  refine vx_calll (vx_runV (As := [.int p0]) (rest := [.int 0, .ref h0]) ⟨hx, hb, hml, hown, ht⟩ (k_X11_foundBy l hfl D g z0 _ a p0) (cwV 1 ht (gV w_616 w_618 w_619 w_31 w_617) rfl rfl rfl (by decide +kernel) (le2 rfl rfl)) ⟨PP.blind, va_recv hK.1 hP (ci := 17) (q0 := 1) rfl rfl, PP.mk' hK hZ hz hAz hS hPc hDc⟩ rfl rfl hl.1 rfl (lv_room (Nat.le_of_ble_eq_true rfl)) dL_foundBy_4 (le2 rfl rfl)) hS (fun q _ h => hFc q h) hFc (fun q _ h => hFc q h) (fun E ce q9 u t H locs ht1 hvm hw hB hz1 hk1 hS hcell hv9 hcl => ?_) (fun r u t H locs ht1 hvm hw hB hz1 hk1 hS => ?_)
  · have hP := ro1 hP hk1
    obtain ⟨rfl, hB⟩ := hB
    refine vx_catch hown [] ⟨0, 8, 11, 26⟩ [] (htab.trans rfl) (fun _ h9 => absurd h9 List.not_mem_nil) (by decide) (by decide) (ht _ w_534) (hK.2.2.use w_535) hcell hv9 hcl ?_
    refine W.eq (g2 := F0 m 11 ls [.ref q9]) rfl ?_
    refine lv_astore_n (lv' := [(3, .ref q9), (0, .ref (a 0)), (1, .int p0), (2, .ref h0)]) hx hb dL_foundBy_11 rfl hl (by decide) rfl (fun ls hl => ?_)
    refine lv_iconst (v := 1) hx hb dL_foundBy_12 (by decide) ?_
    have hP9 := hP.sub (ws' := [(h0, .inl (g 1, 1, .inr (.inl (fun _ => 0))))]) [0] rfl
    have hD9 := hD.sub (ws' := [(h0, .inl (g 1, 1, .inr (.inl (fun _ => 0))))]) [0] (by decide) rfl
    refine W.widen (k := 1) (n := 6) (Nat.le_of_ble_eq_true rfl) (Nat.le_of_ble_eq_true rfl) ?_
    exact W.iret (v := 1) hx hb hr (fun t ht9 hW9 => ⟨⟨1, (), rfl, ⟨rfl, trivial⟩, ⟨(by rw [ht9]; exact hP9), hD9⟩⟩, hS.F ht9⟩) hS.2.2 dL_foundBy_13 hlocks
  · exact hw.elim
