theorem w_620 : Cond.methodLink RL 20 yX11_gate ∈ TG := tg (sg_5 _ (List.mem_of_getElem? (i := 189) (by decide +kernel))) (by decide +kernel)
theorem w_621 : Cond.code yX11_gate cX11_gate 5 (some .int) ∈ TG := tg (sg_5 _ (List.mem_of_getElem? (i := 192) (by decide +kernel))) (by decide +kernel)
theorem w_622 : Cond.instanceMethod yX11_gate ∈ TG := tg (sg_5 _ (List.mem_of_getElem? (i := 190) (by decide +kernel))) (by decide +kernel)
theorem w_623 : Cond.selects RX11 yX11_gate yX11_gate ∈ TG := tg (sg_5 _ (List.mem_of_getElem? (i := 191) (by decide +kernel))) (by decide +kernel)
theorem w_624 : Cond.methodLink RL 189 yX11_got ∈ TG := tg (sg_8 _ (List.mem_of_getElem? (i := 192) (by decide +kernel))) (by decide +kernel)
theorem w_625 : Cond.code yX11_got cX11_got 3 (some .int) ∈ TG := tg (sg_8 _ (List.mem_of_getElem? (i := 195) (by decide +kernel))) (by decide +kernel)
theorem w_626 : Cond.instanceMethod yX11_got ∈ TG := tg (sg_8 _ (List.mem_of_getElem? (i := 193) (by decide +kernel))) (by decide +kernel)
theorem w_627 : Cond.selects RX11 yX11_got yX11_got ∈ TG := tg (sg_8 _ (List.mem_of_getElem? (i := 194) (by decide +kernel))) (by decide +kernel)
theorem w_628 : Cond.methodLink RL 125 yX11_hardest ∈ TG := tg (sg_7 _ (List.mem_of_getElem? (i := 197) (by decide +kernel))) (by decide +kernel)
theorem w_629 : Cond.code yX11_hardest cX11_hardest 4 (some .int) ∈ TG := tg (sg_7 _ (List.mem_of_getElem? (i := 200) (by decide +kernel))) (by decide +kernel)
theorem w_630 : Cond.instanceMethod yX11_hardest ∈ TG := tg (sg_7 _ (List.mem_of_getElem? (i := 198) (by decide +kernel))) (by decide +kernel)
theorem w_631 : Cond.selects RX11 yX11_hardest yX11_hardest ∈ TG := tg (sg_7 _ (List.mem_of_getElem? (i := 199) (by decide +kernel))) (by decide +kernel)
theorem w_632 : Cond.methodLink RL 7 yX11_input ∈ TG := tg (sg_5 _ (List.mem_of_getElem? (i := 46) (by decide +kernel))) (by decide +kernel)
theorem w_633 : Cond.code yX11_input cX11_input 1 (some .int) ∈ TG := tg (sg_5 _ (List.mem_of_getElem? (i := 49) (by decide +kernel))) (by decide +kernel)
theorem w_634 : Cond.instanceMethod yX11_input ∈ TG := tg (sg_5 _ (List.mem_of_getElem? (i := 47) (by decide +kernel))) (by decide +kernel)
theorem w_635 : Cond.selects RX11 yX11_input yX11_input ∈ TG := tg (sg_5 _ (List.mem_of_getElem? (i := 48) (by decide +kernel))) (by decide +kernel)
theorem w_636 : Cond.methodLink RL 88 yX11_isImpossible ∈ TG := tg (sg_7 _ (List.mem_of_getElem? (i := 52) (by decide +kernel))) (by decide +kernel)
theorem w_637 : Cond.code yX11_isImpossible cX11_isImpossible 2 (some .boolean) ∈ TG := tg (sg_7 _ (List.mem_of_getElem? (i := 55) (by decide +kernel))) (by decide +kernel)
theorem w_638 : Cond.instanceMethod yX11_isImpossible ∈ TG := tg (sg_7 _ (List.mem_of_getElem? (i := 53) (by decide +kernel))) (by decide +kernel)
theorem w_639 : Cond.selects RX11 yX11_isImpossible yX11_isImpossible ∈ TG := tg (sg_7 _ (List.mem_of_getElem? (i := 54) (by decide +kernel))) (by decide +kernel)
theorem w_640 : Cond.methodLink RL 104 yX11_known ∈ TG := tg (sg_7 _ (List.mem_of_getElem? (i := 105) (by decide +kernel))) (by decide +kernel)
theorem w_641 : Cond.code yX11_known cX11_known 3 (some .int) ∈ TG := tg (sg_7 _ (List.mem_of_getElem? (i := 108) (by decide +kernel))) (by decide +kernel)
theorem w_642 : Cond.instanceMethod yX11_known ∈ TG := tg (sg_7 _ (List.mem_of_getElem? (i := 106) (by decide +kernel))) (by decide +kernel)
theorem w_643 : Cond.selects RX11 yX11_known yX11_known ∈ TG := tg (sg_7 _ (List.mem_of_getElem? (i := 107) (by decide +kernel))) (by decide +kernel)
theorem w_644 : Cond.methodLink RL 201 yX11_least ∈ TG := tg (sg_9 _ (List.mem_of_getElem? (i := 13) (by decide +kernel))) (by decide +kernel)
theorem w_645 : Cond.code yX11_least cX11_least 3 (some .int) ∈ TG := tg (sg_9 _ (List.mem_of_getElem? (i := 16) (by decide +kernel))) (by decide +kernel)
theorem w_646 : Cond.instanceMethod yX11_least ∈ TG := tg (sg_9 _ (List.mem_of_getElem? (i := 14) (by decide +kernel))) (by decide +kernel)
theorem w_647 : Cond.selects RX11 yX11_least yX11_least ∈ TG := tg (sg_9 _ (List.mem_of_getElem? (i := 15) (by decide +kernel))) (by decide +kernel)
theorem w_648 : Cond.methodLink RL 53 yX11_lineOf ∈ TG := tg (sg_6 _ (List.mem_of_getElem? (i := 116) (by decide +kernel))) (by decide +kernel)
theorem w_649 : Cond.code yX11_lineOf cX11_lineOf 2 (some .int) ∈ TG := tg (sg_6 _ (List.mem_of_getElem? (i := 119) (by decide +kernel))) (by decide +kernel)
theorem w_650 : Cond.instanceMethod yX11_lineOf ∈ TG := tg (sg_6 _ (List.mem_of_getElem? (i := 117) (by decide +kernel))) (by decide +kernel)
theorem w_651 : Cond.selects RX11 yX11_lineOf yX11_lineOf ∈ TG := tg (sg_6 _ (List.mem_of_getElem? (i := 118) (by decide +kernel))) (by decide +kernel)
theorem w_652 : Cond.methodLink RL 83 yX11_make ∈ TG := tg (sg_7 _ (List.mem_of_getElem? (i := 2) (by decide +kernel))) (by decide +kernel)
theorem w_653 : Cond.code yX11_make cX11_make 6 (some .int) ∈ TG := tg (sg_7 _ (List.mem_of_getElem? (i := 5) (by decide +kernel))) (by decide +kernel)
theorem w_654 : Cond.instanceMethod yX11_make ∈ TG := tg (sg_7 _ (List.mem_of_getElem? (i := 3) (by decide +kernel))) (by decide +kernel)
theorem w_655 : Cond.selects RX11 yX11_make yX11_make ∈ TG := tg (sg_7 _ (List.mem_of_getElem? (i := 4) (by decide +kernel))) (by decide +kernel)
theorem w_656 : Cond.methodLink RL 161 yX11_march ∈ TG := tg (sg_8 _ (List.mem_of_getElem? (i := 74) (by decide +kernel))) (by decide +kernel)
theorem w_657 : Cond.code yX11_march cX11_march 2 (some .int) ∈ TG := tg (sg_8 _ (List.mem_of_getElem? (i := 77) (by decide +kernel))) (by decide +kernel)
theorem w_658 : Cond.instanceMethod yX11_march ∈ TG := tg (sg_8 _ (List.mem_of_getElem? (i := 75) (by decide +kernel))) (by decide +kernel)
theorem w_659 : Cond.selects RX11 yX11_march yX11_march ∈ TG := tg (sg_8 _ (List.mem_of_getElem? (i := 76) (by decide +kernel))) (by decide +kernel)
theorem w_660 : Cond.methodLink RL 169 yX11_marchCount ∈ TG := tg (sg_8 _ (List.mem_of_getElem? (i := 108) (by decide +kernel))) (by decide +kernel)
theorem w_661 : Cond.code yX11_marchCount cX11_marchCount 2 (some .int) ∈ TG := tg (sg_8 _ (List.mem_of_getElem? (i := 111) (by decide +kernel))) (by decide +kernel)
theorem w_662 : Cond.instanceMethod yX11_marchCount ∈ TG := tg (sg_8 _ (List.mem_of_getElem? (i := 109) (by decide +kernel))) (by decide +kernel)
theorem w_663 : Cond.selects RX11 yX11_marchCount yX11_marchCount ∈ TG := tg (sg_8 _ (List.mem_of_getElem? (i := 110) (by decide +kernel))) (by decide +kernel)
theorem w_664 : Cond.methodLink RL 165 yX11_marchFinds ∈ TG := tg (sg_8 _ (List.mem_of_getElem? (i := 88) (by decide +kernel))) (by decide +kernel)
theorem w_665 : Cond.code yX11_marchFinds cX11_marchFinds 6 (some .boolean) ∈ TG := tg (sg_8 _ (List.mem_of_getElem? (i := 91) (by decide +kernel))) (by decide +kernel)
theorem w_666 : Cond.instanceMethod yX11_marchFinds ∈ TG := tg (sg_8 _ (List.mem_of_getElem? (i := 89) (by decide +kernel))) (by decide +kernel)
theorem w_667 : Cond.selects RX11 yX11_marchFinds yX11_marchFinds ∈ TG := tg (sg_8 _ (List.mem_of_getElem? (i := 90) (by decide +kernel))) (by decide +kernel)
theorem w_668 : Cond.methodLink RL 207 yX11_meanFound ∈ TG := tg (sg_9 _ (List.mem_of_getElem? (i := 63) (by decide +kernel))) (by decide +kernel)
theorem w_669 : Cond.code yX11_meanFound cX11_meanFound 4 (some .double) ∈ TG := tg (sg_9 _ (List.mem_of_getElem? (i := 66) (by decide +kernel))) (by decide +kernel)
theorem w_670 : Cond.instanceMethod yX11_meanFound ∈ TG := tg (sg_9 _ (List.mem_of_getElem? (i := 64) (by decide +kernel))) (by decide +kernel)
theorem w_671 : Cond.selects RX11 yX11_meanFound yX11_meanFound ∈ TG := tg (sg_9 _ (List.mem_of_getElem? (i := 65) (by decide +kernel))) (by decide +kernel)
theorem w_672 : Cond.methodLink RL 94 yX11_merge ∈ TG := tg (sg_7 _ (List.mem_of_getElem? (i := 70) (by decide +kernel))) (by decide +kernel)
theorem w_673 : Cond.code yX11_merge cX11_merge 3 (some .int) ∈ TG := tg (sg_7 _ (List.mem_of_getElem? (i := 73) (by decide +kernel))) (by decide +kernel)
theorem w_674 : Cond.instanceMethod yX11_merge ∈ TG := tg (sg_7 _ (List.mem_of_getElem? (i := 71) (by decide +kernel))) (by decide +kernel)
theorem w_675 : Cond.selects RX11 yX11_merge yX11_merge ∈ TG := tg (sg_7 _ (List.mem_of_getElem? (i := 72) (by decide +kernel))) (by decide +kernel)
theorem w_676 : Cond.methodLink RL 182 yX11_openWire ∈ TG := tg (sg_8 _ (List.mem_of_getElem? (i := 161) (by decide +kernel))) (by decide +kernel)
theorem w_677 : Cond.code yX11_openWire cX11_openWire 4 (some .boolean) ∈ TG := tg (sg_8 _ (List.mem_of_getElem? (i := 164) (by decide +kernel))) (by decide +kernel)
theorem w_678 : Cond.instanceMethod yX11_openWire ∈ TG := tg (sg_8 _ (List.mem_of_getElem? (i := 162) (by decide +kernel))) (by decide +kernel)
theorem w_679 : Cond.selects RX11 yX11_openWire yX11_openWire ∈ TG := tg (sg_8 _ (List.mem_of_getElem? (i := 163) (by decide +kernel))) (by decide +kernel)
theorem w_680 : Cond.methodLink RL 155 yX11_orderAt ∈ TG := tg (sg_8 _ (List.mem_of_getElem? (i := 51) (by decide +kernel))) (by decide +kernel)
theorem w_681 : Cond.code yX11_orderAt cX11_orderAt 2 (some .int) ∈ TG := tg (sg_8 _ (List.mem_of_getElem? (i := 54) (by decide +kernel))) (by decide +kernel)
theorem w_682 : Cond.instanceMethod yX11_orderAt ∈ TG := tg (sg_8 _ (List.mem_of_getElem? (i := 52) (by decide +kernel))) (by decide +kernel)
theorem w_683 : Cond.selects RX11 yX11_orderAt yX11_orderAt ∈ TG := tg (sg_8 _ (List.mem_of_getElem? (i := 53) (by decide +kernel))) (by decide +kernel)
theorem w_684 : Cond.methodLink RL 32 yX11_output ∈ TG := tg (sg_6 _ (List.mem_of_getElem? (i := 2) (by decide +kernel))) (by decide +kernel)
theorem w_685 : Cond.code yX11_output cX11_output 3 (some .boolean) ∈ TG := tg (sg_6 _ (List.mem_of_getElem? (i := 5) (by decide +kernel))) (by decide +kernel)
theorem w_686 : Cond.instanceMethod yX11_output ∈ TG := tg (sg_6 _ (List.mem_of_getElem? (i := 3) (by decide +kernel))) (by decide +kernel)
theorem w_687 : Cond.selects RX11 yX11_output yX11_output ∈ TG := tg (sg_6 _ (List.mem_of_getElem? (i := 4) (by decide +kernel))) (by decide +kernel)
theorem w_688 : Cond.methodLink RL 43 yX11_pattern ∈ TG := tg (sg_6 _ (List.mem_of_getElem? (i := 82) (by decide +kernel))) (by decide +kernel)
theorem w_689 : Cond.code yX11_pattern cX11_pattern 3 (some .int) ∈ TG := tg (sg_6 _ (List.mem_of_getElem? (i := 85) (by decide +kernel))) (by decide +kernel)
theorem w_690 : Cond.instanceMethod yX11_pattern ∈ TG := tg (sg_6 _ (List.mem_of_getElem? (i := 83) (by decide +kernel))) (by decide +kernel)
theorem w_691 : Cond.selects RX11 yX11_pattern yX11_pattern ∈ TG := tg (sg_6 _ (List.mem_of_getElem? (i := 84) (by decide +kernel))) (by decide +kernel)
theorem w_692 : Cond.methodLink RL 56 yX11_pinOf ∈ TG := tg (sg_6 _ (List.mem_of_getElem? (i := 123) (by decide +kernel))) (by decide +kernel)
theorem w_693 : Cond.code yX11_pinOf cX11_pinOf 2 (some .int) ∈ TG := tg (sg_6 _ (List.mem_of_getElem? (i := 126) (by decide +kernel))) (by decide +kernel)
theorem w_694 : Cond.instanceMethod yX11_pinOf ∈ TG := tg (sg_6 _ (List.mem_of_getElem? (i := 124) (by decide +kernel))) (by decide +kernel)
theorem w_695 : Cond.selects RX11 yX11_pinOf yX11_pinOf ∈ TG := tg (sg_6 _ (List.mem_of_getElem? (i := 125) (by decide +kernel))) (by decide +kernel)
theorem w_696 : Cond.methodLink RL 101 yX11_power ∈ TG := tg (sg_7 _ (List.mem_of_getElem? (i := 94) (by decide +kernel))) (by decide +kernel)
theorem w_697 : Cond.code yX11_power cX11_power 2 (some .int) ∈ TG := tg (sg_7 _ (List.mem_of_getElem? (i := 97) (by decide +kernel))) (by decide +kernel)
theorem w_698 : Cond.instanceMethod yX11_power ∈ TG := tg (sg_7 _ (List.mem_of_getElem? (i := 95) (by decide +kernel))) (by decide +kernel)
theorem w_699 : Cond.selects RX11 yX11_power yX11_power ∈ TG := tg (sg_7 _ (List.mem_of_getElem? (i := 96) (by decide +kernel))) (by decide +kernel)
theorem dL_gate_0 : decode cL_gate 0 = .ok (.aload 4, 2) := by decide +kernel
theorem dL_gate_2 : decode cL_gate 2 = .ok (.iconst 0, 1) := by decide +kernel
theorem dL_gate_3 : decode cL_gate 3 = .ok (.aload_n 0, 1) := by decide +kernel
theorem dL_gate_4 : decode cL_gate 4 = .ok (.iload_n 1, 1) := by decide +kernel
theorem dL_gate_5 : decode cL_gate 5 = .ok (.iload_n 2, 1) := by decide +kernel
theorem dL_gate_6 : decode cL_gate 6 = .ok (.iload_n 3, 1) := by decide +kernel
theorem dL_gate_7 : decode cL_gate 7 = .ok (.invokevirtual 20, 3) := by decide +kernel
theorem dL_gate_10 : decode cL_gate 10 = .ok (.i2l, 1) := by decide +kernel
theorem dL_gate_11 : decode cL_gate 11 = .ok (.lastore, 1) := by decide +kernel
theorem dL_gate_12 : decode cL_gate 12 = .ok (.goto 19, 3) := by decide +kernel
theorem dL_gate_15 : decode cL_gate 15 = .ok (.astore 5, 2) := by decide +kernel
theorem dL_gate_17 : decode cL_gate 17 = .ok (.iconst 1, 1) := by decide +kernel
theorem dL_gate_18 : decode cL_gate 18 = .ok (.ireturn, 1) := by decide +kernel
theorem dL_gate_19 : decode cL_gate 19 = .ok (.astore 5, 2) := by decide +kernel
theorem dL_gate_21 : decode cL_gate 21 = .ok (.iconst 2, 1) := by decide +kernel
theorem dL_gate_22 : decode cL_gate 22 = .ok (.ireturn, 1) := by decide +kernel
theorem dL_gate_23 : decode cL_gate 23 = .ok (.astore 5, 2) := by decide +kernel
theorem dL_gate_25 : decode cL_gate 25 = .ok (.iconst 3, 1) := by decide +kernel
theorem dL_gate_26 : decode cL_gate 26 = .ok (.ireturn, 1) := by decide +kernel
theorem dL_gate_27 : decode cL_gate 27 = .ok (.astore 5, 2) := by decide +kernel
theorem dL_gate_29 : decode cL_gate 29 = .ok (.iconst 4, 1) := by decide +kernel
theorem dL_gate_30 : decode cL_gate 30 = .ok (.ireturn, 1) := by decide +kernel
theorem dL_gate_31 : decode cL_gate 31 = .ok (.iconst 0, 1) := by decide +kernel
theorem dL_gate_32 : decode cL_gate 32 = .ok (.ireturn, 1) := by decide +kernel
theorem dL_got_0 : decode cL_got 0 = .ok (.aload_n 3, 1) := by decide +kernel
theorem dL_got_1 : decode cL_got 1 = .ok (.iconst 0, 1) := by decide +kernel
theorem dL_got_2 : decode cL_got 2 = .ok (.aload_n 0, 1) := by decide +kernel
theorem dL_got_3 : decode cL_got 3 = .ok (.iload_n 1, 1) := by decide +kernel
theorem dL_got_4 : decode cL_got 4 = .ok (.iload_n 2, 1) := by decide +kernel
theorem dL_got_5 : decode cL_got 5 = .ok (.invokevirtual 189, 3) := by decide +kernel
theorem dL_got_8 : decode cL_got 8 = .ok (.i2l, 1) := by decide +kernel
theorem dL_got_9 : decode cL_got 9 = .ok (.lastore, 1) := by decide +kernel
theorem dL_got_10 : decode cL_got 10 = .ok (.goto 11, 3) := by decide +kernel
theorem dL_got_13 : decode cL_got 13 = .ok (.astore 4, 2) := by decide +kernel
theorem dL_got_15 : decode cL_got 15 = .ok (.iconst 1, 1) := by decide +kernel
theorem dL_got_16 : decode cL_got 16 = .ok (.ireturn, 1) := by decide +kernel
theorem dL_got_17 : decode cL_got 17 = .ok (.astore 4, 2) := by decide +kernel
theorem dL_got_19 : decode cL_got 19 = .ok (.iconst 2, 1) := by decide +kernel
theorem dL_got_20 : decode cL_got 20 = .ok (.ireturn, 1) := by decide +kernel
theorem dL_got_21 : decode cL_got 21 = .ok (.iconst 0, 1) := by decide +kernel
theorem dL_got_22 : decode cL_got 22 = .ok (.ireturn, 1) := by decide +kernel
theorem dL_hardest_0 : decode cL_hardest 0 = .ok (.aload_n 1, 1) := by decide +kernel
theorem dL_hardest_1 : decode cL_hardest 1 = .ok (.iconst 0, 1) := by decide +kernel
theorem dL_hardest_2 : decode cL_hardest 2 = .ok (.aload_n 0, 1) := by decide +kernel
theorem dL_hardest_3 : decode cL_hardest 3 = .ok (.invokevirtual 125, 3) := by decide +kernel
theorem dL_hardest_6 : decode cL_hardest 6 = .ok (.i2l, 1) := by decide +kernel
theorem dL_hardest_7 : decode cL_hardest 7 = .ok (.lastore, 1) := by decide +kernel
theorem dL_hardest_8 : decode cL_hardest 8 = .ok (.goto 6, 3) := by decide +kernel
theorem dL_hardest_11 : decode cL_hardest 11 = .ok (.astore_n 2, 1) := by decide +kernel
theorem dL_hardest_12 : decode cL_hardest 12 = .ok (.iconst 1, 1) := by decide +kernel
theorem dL_hardest_13 : decode cL_hardest 13 = .ok (.ireturn, 1) := by decide +kernel
theorem dL_hardest_14 : decode cL_hardest 14 = .ok (.iconst 0, 1) := by decide +kernel
theorem dL_hardest_15 : decode cL_hardest 15 = .ok (.ireturn, 1) := by decide +kernel
theorem dL_input_0 : decode cL_input 0 = .ok (.aload_n 1, 1) := by decide +kernel
theorem dL_input_1 : decode cL_input 1 = .ok (.iconst 0, 1) := by decide +kernel
theorem dL_input_2 : decode cL_input 2 = .ok (.aload_n 0, 1) := by decide +kernel
theorem dL_input_3 : decode cL_input 3 = .ok (.invokevirtual 7, 3) := by decide +kernel
theorem dL_input_6 : decode cL_input 6 = .ok (.i2l, 1) := by decide +kernel
theorem dL_input_7 : decode cL_input 7 = .ok (.lastore, 1) := by decide +kernel
theorem dL_input_8 : decode cL_input 8 = .ok (.goto 9, 3) := by decide +kernel
theorem dL_input_11 : decode cL_input 11 = .ok (.astore_n 2, 1) := by decide +kernel
theorem dL_input_12 : decode cL_input 12 = .ok (.iconst 1, 1) := by decide +kernel
theorem dL_input_13 : decode cL_input 13 = .ok (.ireturn, 1) := by decide +kernel
theorem dL_input_14 : decode cL_input 14 = .ok (.astore_n 2, 1) := by decide +kernel
theorem dL_input_15 : decode cL_input 15 = .ok (.iconst 2, 1) := by decide +kernel
theorem dL_input_16 : decode cL_input 16 = .ok (.ireturn, 1) := by decide +kernel
theorem dL_input_17 : decode cL_input 17 = .ok (.iconst 0, 1) := by decide +kernel
theorem dL_input_18 : decode cL_input 18 = .ok (.ireturn, 1) := by decide +kernel
theorem dL_isImpossible_0 : decode cL_isImpossible 0 = .ok (.aload_n 2, 1) := by decide +kernel
theorem dL_isImpossible_1 : decode cL_isImpossible 1 = .ok (.iconst 0, 1) := by decide +kernel
theorem dL_isImpossible_2 : decode cL_isImpossible 2 = .ok (.aload_n 0, 1) := by decide +kernel
theorem dL_isImpossible_3 : decode cL_isImpossible 3 = .ok (.iload_n 1, 1) := by decide +kernel
theorem dL_isImpossible_4 : decode cL_isImpossible 4 = .ok (.invokevirtual 88, 3) := by decide +kernel
theorem dL_isImpossible_7 : decode cL_isImpossible 7 = .ok (.ifCond .eq 7, 3) := by decide +kernel
theorem dL_isImpossible_10 : decode cL_isImpossible 10 = .ok (.lconst 1, 1) := by decide +kernel
theorem dL_isImpossible_11 : decode cL_isImpossible 11 = .ok (.goto 4, 3) := by decide +kernel
theorem dL_isImpossible_14 : decode cL_isImpossible 14 = .ok (.lconst 0, 1) := by decide +kernel
theorem dL_isImpossible_15 : decode cL_isImpossible 15 = .ok (.lastore, 1) := by decide +kernel
theorem dL_isImpossible_16 : decode cL_isImpossible 16 = .ok (.goto 9, 3) := by decide +kernel
theorem dL_isImpossible_19 : decode cL_isImpossible 19 = .ok (.astore_n 3, 1) := by decide +kernel
theorem dL_isImpossible_20 : decode cL_isImpossible 20 = .ok (.iconst 1, 1) := by decide +kernel
theorem dL_isImpossible_21 : decode cL_isImpossible 21 = .ok (.ireturn, 1) := by decide +kernel
theorem dL_isImpossible_22 : decode cL_isImpossible 22 = .ok (.astore_n 3, 1) := by decide +kernel
theorem dL_isImpossible_23 : decode cL_isImpossible 23 = .ok (.iconst 2, 1) := by decide +kernel
theorem dL_isImpossible_24 : decode cL_isImpossible 24 = .ok (.ireturn, 1) := by decide +kernel
theorem dL_isImpossible_25 : decode cL_isImpossible 25 = .ok (.iconst 0, 1) := by decide +kernel
theorem dL_isImpossible_26 : decode cL_isImpossible 26 = .ok (.ireturn, 1) := by decide +kernel
theorem dL_known_0 : decode cL_known 0 = .ok (.aload_n 3, 1) := by decide +kernel
theorem dL_known_1 : decode cL_known 1 = .ok (.iconst 0, 1) := by decide +kernel
theorem dL_known_2 : decode cL_known 2 = .ok (.aload_n 0, 1) := by decide +kernel
theorem dL_known_3 : decode cL_known 3 = .ok (.iload_n 1, 1) := by decide +kernel
theorem dL_known_4 : decode cL_known 4 = .ok (.iload_n 2, 1) := by decide +kernel
theorem dL_known_5 : decode cL_known 5 = .ok (.invokevirtual 104, 3) := by decide +kernel
theorem dL_known_8 : decode cL_known 8 = .ok (.i2l, 1) := by decide +kernel
theorem dL_known_9 : decode cL_known 9 = .ok (.lastore, 1) := by decide +kernel
theorem dL_known_10 : decode cL_known 10 = .ok (.goto 7, 3) := by decide +kernel
theorem dL_known_13 : decode cL_known 13 = .ok (.astore 4, 2) := by decide +kernel
theorem dL_known_15 : decode cL_known 15 = .ok (.iconst 1, 1) := by decide +kernel
theorem dL_known_16 : decode cL_known 16 = .ok (.ireturn, 1) := by decide +kernel
theorem dL_known_17 : decode cL_known 17 = .ok (.iconst 0, 1) := by decide +kernel
theorem dL_known_18 : decode cL_known 18 = .ok (.ireturn, 1) := by decide +kernel
theorem dL_least_0 : decode cL_least 0 = .ok (.aload_n 3, 1) := by decide +kernel
theorem dL_least_1 : decode cL_least 1 = .ok (.iconst 0, 1) := by decide +kernel
theorem dL_least_2 : decode cL_least 2 = .ok (.aload_n 0, 1) := by decide +kernel
theorem dL_least_3 : decode cL_least 3 = .ok (.iload_n 1, 1) := by decide +kernel
theorem dL_least_4 : decode cL_least 4 = .ok (.iload_n 2, 1) := by decide +kernel
theorem dL_least_5 : decode cL_least 5 = .ok (.invokevirtual 201, 3) := by decide +kernel
theorem dL_least_8 : decode cL_least 8 = .ok (.i2l, 1) := by decide +kernel
theorem dL_least_9 : decode cL_least 9 = .ok (.lastore, 1) := by decide +kernel
theorem dL_least_10 : decode cL_least 10 = .ok (.goto 7, 3) := by decide +kernel
theorem dL_least_13 : decode cL_least 13 = .ok (.astore 4, 2) := by decide +kernel
theorem dL_least_15 : decode cL_least 15 = .ok (.iconst 1, 1) := by decide +kernel
theorem dL_least_16 : decode cL_least 16 = .ok (.ireturn, 1) := by decide +kernel
theorem dL_least_17 : decode cL_least 17 = .ok (.iconst 0, 1) := by decide +kernel
theorem dL_least_18 : decode cL_least 18 = .ok (.ireturn, 1) := by decide +kernel
theorem dL_lineOf_0 : decode cL_lineOf 0 = .ok (.aload_n 2, 1) := by decide +kernel
theorem dL_lineOf_1 : decode cL_lineOf 1 = .ok (.iconst 0, 1) := by decide +kernel
theorem dL_lineOf_2 : decode cL_lineOf 2 = .ok (.aload_n 0, 1) := by decide +kernel
theorem dL_lineOf_3 : decode cL_lineOf 3 = .ok (.iload_n 1, 1) := by decide +kernel
theorem dL_lineOf_4 : decode cL_lineOf 4 = .ok (.invokevirtual 53, 3) := by decide +kernel
theorem dL_lineOf_7 : decode cL_lineOf 7 = .ok (.i2l, 1) := by decide +kernel
theorem dL_lineOf_8 : decode cL_lineOf 8 = .ok (.lastore, 1) := by decide +kernel
theorem dL_lineOf_9 : decode cL_lineOf 9 = .ok (.goto 6, 3) := by decide +kernel
theorem dL_lineOf_12 : decode cL_lineOf 12 = .ok (.astore_n 3, 1) := by decide +kernel
theorem dL_lineOf_13 : decode cL_lineOf 13 = .ok (.iconst 1, 1) := by decide +kernel
theorem dL_lineOf_14 : decode cL_lineOf 14 = .ok (.ireturn, 1) := by decide +kernel
theorem dL_lineOf_15 : decode cL_lineOf 15 = .ok (.iconst 0, 1) := by decide +kernel
theorem dL_lineOf_16 : decode cL_lineOf 16 = .ok (.ireturn, 1) := by decide +kernel
theorem dL_make_0 : decode cL_make 0 = .ok (.aload_n 2, 1) := by decide +kernel
theorem dL_make_1 : decode cL_make 1 = .ok (.iconst 0, 1) := by decide +kernel
theorem dL_make_2 : decode cL_make 2 = .ok (.aload_n 0, 1) := by decide +kernel
theorem dL_make_3 : decode cL_make 3 = .ok (.iload_n 1, 1) := by decide +kernel
theorem dL_make_4 : decode cL_make 4 = .ok (.invokevirtual 83, 3) := by decide +kernel
theorem dL_make_7 : decode cL_make 7 = .ok (.i2l, 1) := by decide +kernel
theorem dL_make_8 : decode cL_make 8 = .ok (.lastore, 1) := by decide +kernel
theorem dL_make_9 : decode cL_make 9 = .ok (.goto 15, 3) := by decide +kernel
theorem dL_make_12 : decode cL_make 12 = .ok (.astore_n 3, 1) := by decide +kernel
theorem dL_make_13 : decode cL_make 13 = .ok (.iconst 1, 1) := by decide +kernel
theorem dL_make_14 : decode cL_make 14 = .ok (.ireturn, 1) := by decide +kernel
theorem dL_make_15 : decode cL_make 15 = .ok (.astore_n 3, 1) := by decide +kernel
theorem dL_make_16 : decode cL_make 16 = .ok (.iconst 2, 1) := by decide +kernel
theorem dL_make_17 : decode cL_make 17 = .ok (.ireturn, 1) := by decide +kernel
theorem dL_make_18 : decode cL_make 18 = .ok (.astore_n 3, 1) := by decide +kernel
theorem dL_make_19 : decode cL_make 19 = .ok (.iconst 3, 1) := by decide +kernel
theorem dL_make_20 : decode cL_make 20 = .ok (.ireturn, 1) := by decide +kernel
theorem dL_make_21 : decode cL_make 21 = .ok (.astore_n 3, 1) := by decide +kernel
theorem dL_make_22 : decode cL_make 22 = .ok (.iconst 4, 1) := by decide +kernel
theorem dL_make_23 : decode cL_make 23 = .ok (.ireturn, 1) := by decide +kernel
theorem dL_make_24 : decode cL_make 24 = .ok (.iconst 0, 1) := by decide +kernel
theorem dL_make_25 : decode cL_make 25 = .ok (.ireturn, 1) := by decide +kernel
theorem dL_march_0 : decode cL_march 0 = .ok (.aload_n 2, 1) := by decide +kernel
theorem dL_march_1 : decode cL_march 1 = .ok (.iconst 0, 1) := by decide +kernel
theorem dL_march_2 : decode cL_march 2 = .ok (.aload_n 0, 1) := by decide +kernel
theorem dL_march_3 : decode cL_march 3 = .ok (.iload_n 1, 1) := by decide +kernel
theorem dL_march_4 : decode cL_march 4 = .ok (.invokevirtual 161, 3) := by decide +kernel
theorem dL_march_7 : decode cL_march 7 = .ok (.i2l, 1) := by decide +kernel
theorem dL_march_8 : decode cL_march 8 = .ok (.lastore, 1) := by decide +kernel
theorem dL_march_9 : decode cL_march 9 = .ok (.goto 9, 3) := by decide +kernel
theorem dL_march_12 : decode cL_march 12 = .ok (.astore_n 3, 1) := by decide +kernel
theorem dL_march_13 : decode cL_march 13 = .ok (.iconst 1, 1) := by decide +kernel
theorem dL_march_14 : decode cL_march 14 = .ok (.ireturn, 1) := by decide +kernel
theorem dL_march_15 : decode cL_march 15 = .ok (.astore_n 3, 1) := by decide +kernel
theorem dL_march_16 : decode cL_march 16 = .ok (.iconst 2, 1) := by decide +kernel
theorem dL_march_17 : decode cL_march 17 = .ok (.ireturn, 1) := by decide +kernel
theorem dL_march_18 : decode cL_march 18 = .ok (.iconst 0, 1) := by decide +kernel
theorem dL_march_19 : decode cL_march 19 = .ok (.ireturn, 1) := by decide +kernel
theorem dL_marchCount_0 : decode cL_marchCount 0 = .ok (.aload_n 2, 1) := by decide +kernel
theorem dL_marchCount_1 : decode cL_marchCount 1 = .ok (.iconst 0, 1) := by decide +kernel
theorem dL_marchCount_2 : decode cL_marchCount 2 = .ok (.aload_n 0, 1) := by decide +kernel
theorem dL_marchCount_3 : decode cL_marchCount 3 = .ok (.iload_n 1, 1) := by decide +kernel
theorem dL_marchCount_4 : decode cL_marchCount 4 = .ok (.invokevirtual 169, 3) := by decide +kernel
theorem dL_marchCount_7 : decode cL_marchCount 7 = .ok (.i2l, 1) := by decide +kernel
theorem dL_marchCount_8 : decode cL_marchCount 8 = .ok (.lastore, 1) := by decide +kernel
theorem dL_marchCount_9 : decode cL_marchCount 9 = .ok (.goto 9, 3) := by decide +kernel
theorem dL_marchCount_12 : decode cL_marchCount 12 = .ok (.astore_n 3, 1) := by decide +kernel
theorem dL_marchCount_13 : decode cL_marchCount 13 = .ok (.iconst 1, 1) := by decide +kernel
theorem dL_marchCount_14 : decode cL_marchCount 14 = .ok (.ireturn, 1) := by decide +kernel
theorem dL_marchCount_15 : decode cL_marchCount 15 = .ok (.astore_n 3, 1) := by decide +kernel
theorem dL_marchCount_16 : decode cL_marchCount 16 = .ok (.iconst 2, 1) := by decide +kernel
theorem dL_marchCount_17 : decode cL_marchCount 17 = .ok (.ireturn, 1) := by decide +kernel
theorem dL_marchCount_18 : decode cL_marchCount 18 = .ok (.iconst 0, 1) := by decide +kernel
theorem dL_marchCount_19 : decode cL_marchCount 19 = .ok (.ireturn, 1) := by decide +kernel
theorem dL_marchFinds_0 : decode cL_marchFinds 0 = .ok (.aload 6, 2) := by decide +kernel
theorem dL_marchFinds_2 : decode cL_marchFinds 2 = .ok (.iconst 0, 1) := by decide +kernel
theorem dL_marchFinds_3 : decode cL_marchFinds 3 = .ok (.aload_n 0, 1) := by decide +kernel
theorem dL_marchFinds_4 : decode cL_marchFinds 4 = .ok (.iload_n 1, 1) := by decide +kernel
theorem dL_marchFinds_5 : decode cL_marchFinds 5 = .ok (.iload_n 2, 1) := by decide +kernel
theorem dL_marchFinds_6 : decode cL_marchFinds 6 = .ok (.iload_n 3, 1) := by decide +kernel
theorem dL_marchFinds_7 : decode cL_marchFinds 7 = .ok (.iload 4, 2) := by decide +kernel
theorem dL_marchFinds_9 : decode cL_marchFinds 9 = .ok (.iload 5, 2) := by decide +kernel
theorem dL_marchFinds_11 : decode cL_marchFinds 11 = .ok (.invokevirtual 165, 3) := by decide +kernel
theorem dL_marchFinds_14 : decode cL_marchFinds 14 = .ok (.ifCond .eq 7, 3) := by decide +kernel
theorem dL_marchFinds_17 : decode cL_marchFinds 17 = .ok (.lconst 1, 1) := by decide +kernel
theorem dL_marchFinds_18 : decode cL_marchFinds 18 = .ok (.goto 4, 3) := by decide +kernel
theorem dL_marchFinds_21 : decode cL_marchFinds 21 = .ok (.lconst 0, 1) := by decide +kernel
theorem dL_marchFinds_22 : decode cL_marchFinds 22 = .ok (.lastore, 1) := by decide +kernel
theorem dL_marchFinds_23 : decode cL_marchFinds 23 = .ok (.goto 11, 3) := by decide +kernel
theorem dL_marchFinds_26 : decode cL_marchFinds 26 = .ok (.astore 7, 2) := by decide +kernel
theorem dL_marchFinds_28 : decode cL_marchFinds 28 = .ok (.iconst 1, 1) := by decide +kernel
theorem dL_marchFinds_29 : decode cL_marchFinds 29 = .ok (.ireturn, 1) := by decide +kernel
theorem dL_marchFinds_30 : decode cL_marchFinds 30 = .ok (.astore 7, 2) := by decide +kernel
theorem dL_marchFinds_32 : decode cL_marchFinds 32 = .ok (.iconst 2, 1) := by decide +kernel
theorem dL_marchFinds_33 : decode cL_marchFinds 33 = .ok (.ireturn, 1) := by decide +kernel
theorem dL_marchFinds_34 : decode cL_marchFinds 34 = .ok (.iconst 0, 1) := by decide +kernel
theorem dL_marchFinds_35 : decode cL_marchFinds 35 = .ok (.ireturn, 1) := by decide +kernel
theorem dL_meanFound_0 : decode cL_meanFound 0 = .ok (.aload_n 1, 1) := by decide +kernel
theorem dL_meanFound_1 : decode cL_meanFound 1 = .ok (.iconst 0, 1) := by decide +kernel
theorem dL_meanFound_2 : decode cL_meanFound 2 = .ok (.aload_n 0, 1) := by decide +kernel
theorem dL_meanFound_3 : decode cL_meanFound 3 = .ok (.invokevirtual 207, 3) := by decide +kernel
theorem dL_meanFound_6 : decode cL_meanFound 6 = .ok (.dastore, 1) := by decide +kernel
theorem dL_meanFound_7 : decode cL_meanFound 7 = .ok (.goto 6, 3) := by decide +kernel
theorem dL_meanFound_10 : decode cL_meanFound 10 = .ok (.astore_n 2, 1) := by decide +kernel
theorem dL_meanFound_11 : decode cL_meanFound 11 = .ok (.iconst 1, 1) := by decide +kernel
theorem dL_meanFound_12 : decode cL_meanFound 12 = .ok (.ireturn, 1) := by decide +kernel
theorem dL_meanFound_13 : decode cL_meanFound 13 = .ok (.iconst 0, 1) := by decide +kernel
theorem dL_meanFound_14 : decode cL_meanFound 14 = .ok (.ireturn, 1) := by decide +kernel
theorem dL_merge_0 : decode cL_merge 0 = .ok (.aload_n 3, 1) := by decide +kernel
theorem dL_merge_1 : decode cL_merge 1 = .ok (.iconst 0, 1) := by decide +kernel
theorem dL_merge_2 : decode cL_merge 2 = .ok (.aload_n 0, 1) := by decide +kernel
theorem dL_merge_3 : decode cL_merge 3 = .ok (.iload_n 1, 1) := by decide +kernel
theorem dL_merge_4 : decode cL_merge 4 = .ok (.iload_n 2, 1) := by decide +kernel
theorem dL_merge_5 : decode cL_merge 5 = .ok (.invokevirtual 94, 3) := by decide +kernel
theorem dL_merge_8 : decode cL_merge 8 = .ok (.i2l, 1) := by decide +kernel
theorem dL_merge_9 : decode cL_merge 9 = .ok (.lastore, 1) := by decide +kernel
theorem dL_merge_10 : decode cL_merge 10 = .ok (.goto 11, 3) := by decide +kernel
theorem dL_merge_13 : decode cL_merge 13 = .ok (.astore 4, 2) := by decide +kernel
theorem dL_merge_15 : decode cL_merge 15 = .ok (.iconst 1, 1) := by decide +kernel
theorem dL_merge_16 : decode cL_merge 16 = .ok (.ireturn, 1) := by decide +kernel
theorem dL_merge_17 : decode cL_merge 17 = .ok (.astore 4, 2) := by decide +kernel
theorem dL_merge_19 : decode cL_merge 19 = .ok (.iconst 2, 1) := by decide +kernel
theorem dL_merge_20 : decode cL_merge 20 = .ok (.ireturn, 1) := by decide +kernel
theorem dL_merge_21 : decode cL_merge 21 = .ok (.iconst 0, 1) := by decide +kernel
theorem dL_merge_22 : decode cL_merge 22 = .ok (.ireturn, 1) := by decide +kernel
theorem dL_openWire_0 : decode cL_openWire 0 = .ok (.aload_n 3, 1) := by decide +kernel
theorem dL_openWire_1 : decode cL_openWire 1 = .ok (.iconst 0, 1) := by decide +kernel
theorem dL_openWire_2 : decode cL_openWire 2 = .ok (.aload_n 0, 1) := by decide +kernel
theorem dL_openWire_3 : decode cL_openWire 3 = .ok (.iload_n 1, 1) := by decide +kernel
theorem dL_openWire_4 : decode cL_openWire 4 = .ok (.iload_n 2, 1) := by decide +kernel
theorem dL_openWire_5 : decode cL_openWire 5 = .ok (.invokevirtual 182, 3) := by decide +kernel
theorem dL_openWire_8 : decode cL_openWire 8 = .ok (.ifCond .eq 7, 3) := by decide +kernel
theorem dL_openWire_11 : decode cL_openWire 11 = .ok (.lconst 1, 1) := by decide +kernel
theorem dL_openWire_12 : decode cL_openWire 12 = .ok (.goto 4, 3) := by decide +kernel
theorem dL_openWire_15 : decode cL_openWire 15 = .ok (.lconst 0, 1) := by decide +kernel
theorem dL_openWire_16 : decode cL_openWire 16 = .ok (.lastore, 1) := by decide +kernel
theorem dL_openWire_17 : decode cL_openWire 17 = .ok (.goto 11, 3) := by decide +kernel
theorem dL_openWire_20 : decode cL_openWire 20 = .ok (.astore 4, 2) := by decide +kernel
theorem dL_openWire_22 : decode cL_openWire 22 = .ok (.iconst 1, 1) := by decide +kernel
theorem dL_openWire_23 : decode cL_openWire 23 = .ok (.ireturn, 1) := by decide +kernel
theorem dL_openWire_24 : decode cL_openWire 24 = .ok (.astore 4, 2) := by decide +kernel
theorem dL_openWire_26 : decode cL_openWire 26 = .ok (.iconst 2, 1) := by decide +kernel
theorem dL_openWire_27 : decode cL_openWire 27 = .ok (.ireturn, 1) := by decide +kernel
theorem dL_openWire_28 : decode cL_openWire 28 = .ok (.iconst 0, 1) := by decide +kernel
theorem dL_openWire_29 : decode cL_openWire 29 = .ok (.ireturn, 1) := by decide +kernel
theorem dL_orderAt_0 : decode cL_orderAt 0 = .ok (.aload_n 2, 1) := by decide +kernel
theorem dL_orderAt_1 : decode cL_orderAt 1 = .ok (.iconst 0, 1) := by decide +kernel
theorem dL_orderAt_2 : decode cL_orderAt 2 = .ok (.aload_n 0, 1) := by decide +kernel
theorem dL_orderAt_3 : decode cL_orderAt 3 = .ok (.iload_n 1, 1) := by decide +kernel
theorem dL_orderAt_4 : decode cL_orderAt 4 = .ok (.invokevirtual 155, 3) := by decide +kernel
theorem dL_orderAt_7 : decode cL_orderAt 7 = .ok (.i2l, 1) := by decide +kernel
theorem dL_orderAt_8 : decode cL_orderAt 8 = .ok (.lastore, 1) := by decide +kernel
theorem dL_orderAt_9 : decode cL_orderAt 9 = .ok (.goto 6, 3) := by decide +kernel
theorem dL_orderAt_12 : decode cL_orderAt 12 = .ok (.astore_n 3, 1) := by decide +kernel
theorem dL_orderAt_13 : decode cL_orderAt 13 = .ok (.iconst 1, 1) := by decide +kernel
theorem dL_orderAt_14 : decode cL_orderAt 14 = .ok (.ireturn, 1) := by decide +kernel
theorem dL_orderAt_15 : decode cL_orderAt 15 = .ok (.iconst 0, 1) := by decide +kernel
theorem dL_orderAt_16 : decode cL_orderAt 16 = .ok (.ireturn, 1) := by decide +kernel
theorem dL_output_0 : decode cL_output 0 = .ok (.aload_n 2, 1) := by decide +kernel
theorem dL_output_1 : decode cL_output 1 = .ok (.iconst 0, 1) := by decide +kernel
theorem dL_output_2 : decode cL_output 2 = .ok (.aload_n 0, 1) := by decide +kernel
theorem dL_output_3 : decode cL_output 3 = .ok (.iload_n 1, 1) := by decide +kernel
theorem dL_output_4 : decode cL_output 4 = .ok (.invokevirtual 32, 3) := by decide +kernel
theorem dL_output_7 : decode cL_output 7 = .ok (.ifCond .eq 7, 3) := by decide +kernel
theorem dL_output_10 : decode cL_output 10 = .ok (.lconst 1, 1) := by decide +kernel
theorem dL_output_11 : decode cL_output 11 = .ok (.goto 4, 3) := by decide +kernel
theorem dL_output_14 : decode cL_output 14 = .ok (.lconst 0, 1) := by decide +kernel
theorem dL_output_15 : decode cL_output 15 = .ok (.lastore, 1) := by decide +kernel
theorem dL_output_16 : decode cL_output 16 = .ok (.goto 9, 3) := by decide +kernel
theorem dL_output_19 : decode cL_output 19 = .ok (.astore_n 3, 1) := by decide +kernel
theorem dL_output_20 : decode cL_output 20 = .ok (.iconst 1, 1) := by decide +kernel
theorem dL_output_21 : decode cL_output 21 = .ok (.ireturn, 1) := by decide +kernel
theorem dL_output_22 : decode cL_output 22 = .ok (.astore_n 3, 1) := by decide +kernel
theorem dL_output_23 : decode cL_output 23 = .ok (.iconst 2, 1) := by decide +kernel
theorem dL_output_24 : decode cL_output 24 = .ok (.ireturn, 1) := by decide +kernel
theorem dL_output_25 : decode cL_output 25 = .ok (.iconst 0, 1) := by decide +kernel
theorem dL_output_26 : decode cL_output 26 = .ok (.ireturn, 1) := by decide +kernel
theorem dL_pattern_0 : decode cL_pattern 0 = .ok (.aload_n 3, 1) := by decide +kernel
theorem dL_pattern_1 : decode cL_pattern 1 = .ok (.iconst 0, 1) := by decide +kernel
theorem dL_pattern_2 : decode cL_pattern 2 = .ok (.aload_n 0, 1) := by decide +kernel
theorem dL_pattern_3 : decode cL_pattern 3 = .ok (.iload_n 1, 1) := by decide +kernel
theorem dL_pattern_4 : decode cL_pattern 4 = .ok (.iload_n 2, 1) := by decide +kernel
theorem dL_pattern_5 : decode cL_pattern 5 = .ok (.invokevirtual 43, 3) := by decide +kernel
theorem dL_pattern_8 : decode cL_pattern 8 = .ok (.i2l, 1) := by decide +kernel
theorem dL_pattern_9 : decode cL_pattern 9 = .ok (.lastore, 1) := by decide +kernel
theorem dL_pattern_10 : decode cL_pattern 10 = .ok (.goto 15, 3) := by decide +kernel
theorem dL_pattern_13 : decode cL_pattern 13 = .ok (.astore 4, 2) := by decide +kernel
theorem dL_pattern_15 : decode cL_pattern 15 = .ok (.iconst 1, 1) := by decide +kernel
theorem dL_pattern_16 : decode cL_pattern 16 = .ok (.ireturn, 1) := by decide +kernel
theorem dL_pattern_17 : decode cL_pattern 17 = .ok (.astore 4, 2) := by decide +kernel
theorem dL_pattern_19 : decode cL_pattern 19 = .ok (.iconst 2, 1) := by decide +kernel
theorem dL_pattern_20 : decode cL_pattern 20 = .ok (.ireturn, 1) := by decide +kernel
theorem dL_pattern_21 : decode cL_pattern 21 = .ok (.astore 4, 2) := by decide +kernel
theorem dL_pattern_23 : decode cL_pattern 23 = .ok (.iconst 3, 1) := by decide +kernel
theorem dL_pattern_24 : decode cL_pattern 24 = .ok (.ireturn, 1) := by decide +kernel
theorem dL_pattern_25 : decode cL_pattern 25 = .ok (.iconst 0, 1) := by decide +kernel
theorem dL_pattern_26 : decode cL_pattern 26 = .ok (.ireturn, 1) := by decide +kernel
theorem dL_pinOf_0 : decode cL_pinOf 0 = .ok (.aload_n 2, 1) := by decide +kernel
theorem dL_pinOf_1 : decode cL_pinOf 1 = .ok (.iconst 0, 1) := by decide +kernel
theorem dL_pinOf_2 : decode cL_pinOf 2 = .ok (.aload_n 0, 1) := by decide +kernel
theorem dL_pinOf_3 : decode cL_pinOf 3 = .ok (.iload_n 1, 1) := by decide +kernel
theorem dL_pinOf_4 : decode cL_pinOf 4 = .ok (.invokevirtual 56, 3) := by decide +kernel
theorem dL_pinOf_7 : decode cL_pinOf 7 = .ok (.i2l, 1) := by decide +kernel
theorem dL_pinOf_8 : decode cL_pinOf 8 = .ok (.lastore, 1) := by decide +kernel
theorem dL_pinOf_9 : decode cL_pinOf 9 = .ok (.goto 6, 3) := by decide +kernel
theorem dL_pinOf_12 : decode cL_pinOf 12 = .ok (.astore_n 3, 1) := by decide +kernel
theorem dL_pinOf_13 : decode cL_pinOf 13 = .ok (.iconst 1, 1) := by decide +kernel
theorem dL_pinOf_14 : decode cL_pinOf 14 = .ok (.ireturn, 1) := by decide +kernel
theorem dL_pinOf_15 : decode cL_pinOf 15 = .ok (.iconst 0, 1) := by decide +kernel
theorem dL_pinOf_16 : decode cL_pinOf 16 = .ok (.ireturn, 1) := by decide +kernel
theorem dL_power_0 : decode cL_power 0 = .ok (.aload_n 2, 1) := by decide +kernel
theorem dL_power_1 : decode cL_power 1 = .ok (.iconst 0, 1) := by decide +kernel
theorem dL_power_2 : decode cL_power 2 = .ok (.aload_n 0, 1) := by decide +kernel
theorem dL_power_3 : decode cL_power 3 = .ok (.iload_n 1, 1) := by decide +kernel
theorem dL_power_4 : decode cL_power 4 = .ok (.invokevirtual 101, 3) := by decide +kernel
theorem dL_power_7 : decode cL_power 7 = .ok (.i2l, 1) := by decide +kernel
theorem dL_power_8 : decode cL_power 8 = .ok (.lastore, 1) := by decide +kernel
theorem dL_power_9 : decode cL_power 9 = .ok (.goto 6, 3) := by decide +kernel
theorem dL_power_12 : decode cL_power 12 = .ok (.astore_n 3, 1) := by decide +kernel
theorem dL_power_13 : decode cL_power 13 = .ok (.iconst 1, 1) := by decide +kernel
theorem dL_power_14 : decode cL_power 14 = .ok (.ireturn, 1) := by decide +kernel
theorem dL_power_15 : decode cL_power 15 = .ok (.iconst 0, 1) := by decide +kernel
theorem dL_power_16 : decode cL_power 16 = .ok (.ireturn, 1) := by decide +kernel
set_option maxHeartbeats 4000000 in
set_option maxRecDepth 100000 in
theorem k_L_gate (l : Launch) (hfl : l.stackTraces = false) (D : va_G) (g : Nat → ClassId) (z0 sz : Nat) (a : Nat → Nat) (p0 : Int32) (p1 : Int32) (p2 : Int32) (h0 : Nat) (hc_p0 : isC p0) : Met l yL_gate (.codeWith yL_gate cL_gate 6 (some .int) [(0, 12, 15, 24), (0, 12, 19, 26), (0, 12, 23, 13), (0, 12, 27, 15)] :: TG) (rmk 8 1 6 126) (va_Pc [.ref (a 0), .int p0, .int p1, .int p2, .ref h0] (PP D g z0 sz [(h0, .inl (g 1, 1, .inr (.inl (fun _ => 0)))), ((a 0), f_x a), ((a 1), f_net a)])) (va_Qi (fun (r : Int32) (u : Unit) => ((r = 2) ∧ ((gk2 p0) ∨ (gk1 p0))) ∨ ((r = 1) ∧ ((¬ gk2 p0) ∧ (¬ gk1 p0)))) (fun (u : Unit) (t : State) => va_P D vwCl [(h0, .inl (g 1, 1, .inr (.inl (fun _ => 0))))] t.heap ∧ va_D (va_A [(h0, .inl (g 1, 1, .inr (.inl (fun _ => 0)))), ((a 0), f_x a), ((a 1), f_net a)] sz) [(h0, .inl (g 1, 1, .inr (.inl (fun _ => 0))))]) (va_A [(h0, .inl (g 1, 1, .inr (.inl (fun _ => 0)))), ((a 0), f_x a), ((a 1), f_net a)] sz)) 1 6 (va_A [(h0, .inl (g 1, 1, .inr (.inl (fun _ => 0)))), ((a 0), f_x a), ((a 1), f_net a)] sz) := by
  refine metW0 (cc := cL_gate) (n := 6) (hh := [(0, 12, 15, 24), (0, 12, 19, 26), (0, 12, 23, 13), (0, 12, 27, 15)]) (by decide) (Nat.le_of_ble_eq_true rfl) ?_
  intro p e s m args below meth c hx hb hr hml htab hown ht hlocks hnm hP0 hD0 hK hZ hsz hz ls hl
  subst hsz
  have hA : ∀ q : Nat, s.heap.size ≤ q → va_A [(h0, .inl (g 1, 1, .inr (.inl (fun _ => 0)))), ((a 0), f_x a), ((a 1), f_net a)] s.heap.size q := Anw
  have hAz : ∀ q, va_A [(h0, .inl (g 1, 1, .inr (.inl (fun _ => 0)))), ((a 0), f_x a), ((a 1), f_net a)] s.heap.size q → z0 ≤ q := Awz hz hD0
  have hS : va_S (va_A [(h0, .inl (g 1, 1, .inr (.inl (fun _ => 0)))), ((a 0), f_x a), ((a 1), f_net a)] s.heap.size) s.heap s.heap [] := va_S.rf
  have hD : va_D (va_A [(h0, .inl (g 1, 1, .inr (.inl (fun _ => 0)))), ((a 0), f_x a), ((a 1), f_net a)] s.heap.size) [(h0, .inl (g 1, 1, .inr (.inl (fun _ => 0)))), ((a 0), f_x a), ((a 1), f_net a)] := hD0.self
  have hP : va_P D vwCl [(h0, .inl (g 1, 1, .inr (.inl (fun _ => 0)))), ((a 0), f_x a), ((a 1), f_net a)] s.heap := hP0
  have hl : lv_has ls 6 [(0, .ref (a 0)), (1, .int p0), (2, .int p1), (3, .int p2), (4, .ref h0)] := hl
  refine lv_aload hx hb dL_gate_0 (lv_at hl 4 rfl) ?_
  refine lv_iconst (v := 0) hx hb dL_gate_2 (by decide) ?_
  refine lv_aload_n hx hb dL_gate_3 rfl (lv_at hl 0 rfl) ?_
  refine lv_iload_n hx hb dL_gate_4 rfl (lv_at hl 1 rfl) ?_
  refine lv_iload_n hx hb dL_gate_5 rfl (lv_at hl 2 rfl) ?_
  refine lv_iload_n hx hb dL_gate_6 rfl (lv_at hl 3 rfl) ?_
  have hPc : va_P D vwCl [((a 0), f_x a), ((a 1), f_net a)] _ := hP.sub (ws' := [((a 0), f_x a), ((a 1), f_net a)]) [1, 2] rfl
  have hDc : va_D (fun q => z0 ≤ q) [((a 0), f_x a), ((a 1), f_net a)] := (hD.to hAz).pick (ws' := [((a 0), f_x a), ((a 1), f_net a)]) [1, 2] (by decide) rfl
  have hFc := AnA (ws := [(h0, .inl (g 1, 1, .inr (.inl (fun _ => 0)))), ((a 0), f_x a), ((a 1), f_net a)]) hS.1
  refine vx_calli (vx_runV (As := [.int p0, .int p1, .int p2]) (rest := [.int 0, .ref h0]) ⟨hx, hb, hml, hown, ht⟩ (k_X11_gate l hfl D g z0 _ a p0 p1 p2 hc_p0) (cwV 3 ht (gV w_620 w_622 w_623 w_31 w_621) rfl rfl rfl (by decide +kernel) (le2 rfl rfl)) ⟨PP.blind, va_recv hK.1 hP (ci := 17) (q0 := 1) rfl rfl, PP.mk' hK hZ hz hAz hS hPc hDc⟩ rfl rfl hl.1 rfl (lv_room (Nat.le_of_ble_eq_true rfl)) dL_gate_7 (le2 rfl rfl)) hS (fun q _ h => hFc q h) hFc (fun q _ h => hFc q h) (fun E ce q9 u t H locs ht1 hvm hw hB hz1 hk1 hS hcell hv9 hcl => ?_) (fun r u t H locs ht1 hvm hw hB hz1 hk1 hS => ?_)
  · have hP := ro1 hP hk1
    rcases hB with hB | hB
    · obtain ⟨rfl, hB⟩ := hB
      rcases hB with hB | hB
      · have c_1 := hB
        refine vx_catch hown [⟨0, 12, 15, 24⟩] ⟨0, 12, 19, 26⟩ [⟨0, 12, 23, 13⟩, ⟨0, 12, 27, 15⟩] (htab.trans rfl) (List.forall_mem_cons.mpr ⟨Or.inr ⟨by decide, "java/lang/IllegalArgumentException", ht _ w_540, hK.2.2.2.2.1 _ (List.mem_of_getElem? (i := 15) rfl)⟩, (fun _ h9 => absurd h9 List.not_mem_nil)⟩) (by decide) (by decide) (ht _ w_534) (hK.2.2.use w_535) hcell hv9 hcl ?_
        refine W.eq (g2 := F0 m 19 ls [.ref q9]) rfl ?_
        refine lv_astore (lv' := [(5, .ref q9), (0, .ref (a 0)), (1, .int p0), (2, .int p1), (3, .int p2), (4, .ref h0)]) hx hb dL_gate_19 hl (by decide) rfl (fun ls hl => ?_)
        refine lv_iconst (v := 2) hx hb dL_gate_21 (by decide) ?_
        have hP9 := hP.sub (ws' := [(h0, .inl (g 1, 1, .inr (.inl (fun _ => 0))))]) [0] rfl
        have hD9 := hD.sub (ws' := [(h0, .inl (g 1, 1, .inr (.inl (fun _ => 0))))]) [0] (by decide) rfl
        refine W.widen (k := 1) (n := 6) (Nat.le_of_ble_eq_true rfl) (Nat.le_of_ble_eq_true rfl) ?_
        exact W.iret (v := 2) hx hb hr (fun t ht9 hW9 => ⟨⟨2, (), rfl, (Or.inl ⟨rfl, (Or.inl c_1)⟩), ⟨(by rw [ht9]; exact hP9), hD9⟩⟩, hS.F ht9⟩) hS.2.2 dL_gate_22 hlocks
      · have c_2 := hB
        refine vx_catch hown [⟨0, 12, 15, 24⟩] ⟨0, 12, 19, 26⟩ [⟨0, 12, 23, 13⟩, ⟨0, 12, 27, 15⟩] (htab.trans rfl) (List.forall_mem_cons.mpr ⟨Or.inr ⟨by decide, "java/lang/IllegalArgumentException", ht _ w_540, hK.2.2.2.2.1 _ (List.mem_of_getElem? (i := 15) rfl)⟩, (fun _ h9 => absurd h9 List.not_mem_nil)⟩) (by decide) (by decide) (ht _ w_534) (hK.2.2.use w_535) hcell hv9 hcl ?_
        refine W.eq (g2 := F0 m 19 ls [.ref q9]) rfl ?_
        refine lv_astore (lv' := [(5, .ref q9), (0, .ref (a 0)), (1, .int p0), (2, .int p1), (3, .int p2), (4, .ref h0)]) hx hb dL_gate_19 hl (by decide) rfl (fun ls hl => ?_)
        refine lv_iconst (v := 2) hx hb dL_gate_21 (by decide) ?_
        have hP9 := hP.sub (ws' := [(h0, .inl (g 1, 1, .inr (.inl (fun _ => 0))))]) [0] rfl
        have hD9 := hD.sub (ws' := [(h0, .inl (g 1, 1, .inr (.inl (fun _ => 0))))]) [0] (by decide) rfl
        refine W.widen (k := 1) (n := 6) (Nat.le_of_ble_eq_true rfl) (Nat.le_of_ble_eq_true rfl) ?_
        exact W.iret (v := 2) hx hb hr (fun t ht9 hW9 => ⟨⟨2, (), rfl, (Or.inl ⟨rfl, (Or.inr c_2)⟩), ⟨(by rw [ht9]; exact hP9), hD9⟩⟩, hS.F ht9⟩) hS.2.2 dL_gate_22 hlocks
    · obtain ⟨rfl, hB⟩ := hB
      obtain ⟨c_3, c_4⟩ := hB
      refine vx_catch hown [] ⟨0, 12, 15, 24⟩ [⟨0, 12, 19, 26⟩, ⟨0, 12, 23, 13⟩, ⟨0, 12, 27, 15⟩] (htab.trans rfl) (fun _ h9 => absurd h9 List.not_mem_nil) (by decide) (by decide) (ht _ w_540) (hK.2.2.use w_541) hcell hv9 hcl ?_
      refine W.eq (g2 := F0 m 15 ls [.ref q9]) rfl ?_
      refine lv_astore (lv' := [(5, .ref q9), (0, .ref (a 0)), (1, .int p0), (2, .int p1), (3, .int p2), (4, .ref h0)]) hx hb dL_gate_15 hl (by decide) rfl (fun ls hl => ?_)
      refine lv_iconst (v := 1) hx hb dL_gate_17 (by decide) ?_
      have hP9 := hP.sub (ws' := [(h0, .inl (g 1, 1, .inr (.inl (fun _ => 0))))]) [0] rfl
      have hD9 := hD.sub (ws' := [(h0, .inl (g 1, 1, .inr (.inl (fun _ => 0))))]) [0] (by decide) rfl
      refine W.widen (k := 1) (n := 6) (Nat.le_of_ble_eq_true rfl) (Nat.le_of_ble_eq_true rfl) ?_
      exact W.iret (v := 1) hx hb hr (fun t ht9 hW9 => ⟨⟨1, (), rfl, (Or.inr ⟨rfl, ⟨c_3, c_4⟩⟩), ⟨(by rw [ht9]; exact hP9), hD9⟩⟩, hS.F ht9⟩) hS.2.2 dL_gate_18 hlocks
  · exact hw.elim
set_option maxHeartbeats 4000000 in
set_option maxRecDepth 100000 in
theorem k_L_got (l : Launch) (hfl : l.stackTraces = false) (D : va_G) (g : Nat → ClassId) (z0 sz : Nat) (a : Nat → Nat) (p0 : Int32) (p1 : Int32) (h0 : Nat) (hc_p1 : isC p1) : Met l yL_got (.codeWith yL_got cL_got 5 (some .int) [(0, 10, 13, 26), (0, 10, 17, 24)] :: TG) (rmk 8 1 6 124) (va_Pc [.ref (a 0), .int p0, .int p1, .ref h0] (PP D g z0 sz [(h0, .inl (g 1, 1, .inr (.inl (fun _ => 0)))), ((a 0), f_x a), ((a 10), f_wires a)])) (va_Qi (fun (r : Int32) (u : Unit) => (r = 1) ∧ True) (fun (u : Unit) (t : State) => va_P D vwCl [(h0, .inl (g 1, 1, .inr (.inl (fun _ => 0))))] t.heap ∧ va_D (va_A [(h0, .inl (g 1, 1, .inr (.inl (fun _ => 0)))), ((a 0), f_x a), ((a 10), f_wires a)] sz) [(h0, .inl (g 1, 1, .inr (.inl (fun _ => 0))))]) (va_A [(h0, .inl (g 1, 1, .inr (.inl (fun _ => 0)))), ((a 0), f_x a), ((a 10), f_wires a)] sz)) 1 6 (va_A [(h0, .inl (g 1, 1, .inr (.inl (fun _ => 0)))), ((a 0), f_x a), ((a 10), f_wires a)] sz) := by
  refine metW0 (cc := cL_got) (n := 5) (hh := [(0, 10, 13, 26), (0, 10, 17, 24)]) (by decide) (Nat.le_of_ble_eq_true rfl) ?_
  intro p e s m args below meth c hx hb hr hml htab hown ht hlocks hnm hP0 hD0 hK hZ hsz hz ls hl
  subst hsz
  have hA : ∀ q : Nat, s.heap.size ≤ q → va_A [(h0, .inl (g 1, 1, .inr (.inl (fun _ => 0)))), ((a 0), f_x a), ((a 10), f_wires a)] s.heap.size q := Anw
  have hAz : ∀ q, va_A [(h0, .inl (g 1, 1, .inr (.inl (fun _ => 0)))), ((a 0), f_x a), ((a 10), f_wires a)] s.heap.size q → z0 ≤ q := Awz hz hD0
  have hS : va_S (va_A [(h0, .inl (g 1, 1, .inr (.inl (fun _ => 0)))), ((a 0), f_x a), ((a 10), f_wires a)] s.heap.size) s.heap s.heap [] := va_S.rf
  have hD : va_D (va_A [(h0, .inl (g 1, 1, .inr (.inl (fun _ => 0)))), ((a 0), f_x a), ((a 10), f_wires a)] s.heap.size) [(h0, .inl (g 1, 1, .inr (.inl (fun _ => 0)))), ((a 0), f_x a), ((a 10), f_wires a)] := hD0.self
  have hP : va_P D vwCl [(h0, .inl (g 1, 1, .inr (.inl (fun _ => 0)))), ((a 0), f_x a), ((a 10), f_wires a)] s.heap := hP0
  have hl : lv_has ls 5 [(0, .ref (a 0)), (1, .int p0), (2, .int p1), (3, .ref h0)] := hl
  refine lv_aload_n hx hb dL_got_0 rfl (lv_at hl 3 rfl) ?_
  refine lv_iconst (v := 0) hx hb dL_got_1 (by decide) ?_
  refine lv_aload_n hx hb dL_got_2 rfl (lv_at hl 0 rfl) ?_
  refine lv_iload_n hx hb dL_got_3 rfl (lv_at hl 1 rfl) ?_
  refine lv_iload_n hx hb dL_got_4 rfl (lv_at hl 2 rfl) ?_
  have hPc : va_P D vwCl [((a 0), f_x a), ((a 10), f_wires a)] _ := hP.sub (ws' := [((a 0), f_x a), ((a 10), f_wires a)]) [1, 2] rfl
  have hDc : va_D (fun q => z0 ≤ q) [((a 0), f_x a), ((a 10), f_wires a)] := (hD.to hAz).pick (ws' := [((a 0), f_x a), ((a 10), f_wires a)]) [1, 2] (by decide) rfl
  have hFc := AnA (ws := [(h0, .inl (g 1, 1, .inr (.inl (fun _ => 0)))), ((a 0), f_x a), ((a 10), f_wires a)]) hS.1
  refine vx_calli (vx_runV (As := [.int p0, .int p1]) (rest := [.int 0, .ref h0]) ⟨hx, hb, hml, hown, ht⟩ (k_X11_got l hfl D g z0 _ a p0 p1 hc_p1) (cwV 2 ht (gV w_624 w_626 w_627 w_31 w_625) rfl rfl rfl (by decide +kernel) (le2 rfl rfl)) ⟨PP.blind, va_recv hK.1 hP (ci := 17) (q0 := 1) rfl rfl, PP.mk' hK hZ hz hAz hS hPc hDc⟩ rfl rfl hl.1 rfl (lv_room (Nat.le_of_ble_eq_true rfl)) dL_got_5 (le2 rfl rfl)) hS (fun q _ h => hFc q h) hFc (fun q _ h => hFc q h) (fun E ce q9 u t H locs ht1 hvm hw hB hz1 hk1 hS hcell hv9 hcl => ?_) (fun r u t H locs ht1 hvm hw hB hz1 hk1 hS => ?_)
  · have hP := ro1 hP hk1
    obtain ⟨rfl, hB⟩ := hB
    refine vx_catch hown [] ⟨0, 10, 13, 26⟩ [⟨0, 10, 17, 24⟩] (htab.trans rfl) (fun _ h9 => absurd h9 List.not_mem_nil) (by decide) (by decide) (ht _ w_534) (hK.2.2.use w_535) hcell hv9 hcl ?_
    refine W.eq (g2 := F0 m 13 ls [.ref q9]) rfl ?_
    refine lv_astore (lv' := [(4, .ref q9), (0, .ref (a 0)), (1, .int p0), (2, .int p1), (3, .ref h0)]) hx hb dL_got_13 hl (by decide) rfl (fun ls hl => ?_)
    refine lv_iconst (v := 1) hx hb dL_got_15 (by decide) ?_
    have hP9 := hP.sub (ws' := [(h0, .inl (g 1, 1, .inr (.inl (fun _ => 0))))]) [0] rfl
    have hD9 := hD.sub (ws' := [(h0, .inl (g 1, 1, .inr (.inl (fun _ => 0))))]) [0] (by decide) rfl
    refine W.widen (k := 1) (n := 6) (Nat.le_of_ble_eq_true rfl) (Nat.le_of_ble_eq_true rfl) ?_
    exact W.iret (v := 1) hx hb hr (fun t ht9 hW9 => ⟨⟨1, (), rfl, ⟨rfl, trivial⟩, ⟨(by rw [ht9]; exact hP9), hD9⟩⟩, hS.F ht9⟩) hS.2.2 dL_got_16 hlocks
  · exact hw.elim
set_option maxHeartbeats 4000000 in
set_option maxRecDepth 100000 in
theorem k_L_hardest (l : Launch) (hfl : l.stackTraces = false) (D : va_G) (g : Nat → ClassId) (z0 sz : Nat) (a : Nat → Nat) (h0 : Nat) : Met l yL_hardest (.codeWith yL_hardest cL_hardest 3 (some .int) [(0, 8, 11, 86)] :: TG) (rmk 7 1 6 104) (va_Pc [.ref (a 0), .ref h0] (PP D g z0 sz [(h0, .inl (g 1, 1, .inr (.inl (fun _ => 0)))), ((a 0), f_x a), ((a 4), f_words a), ((a 47), .inl (g 0, 256, .inl (fun _ => 0))), ((a 1), f_net a), ((a 2), f_book a)])) (va_Qi (fun (r : Int32) (u : Unit) => (r = 1) ∧ True) (fun (u : Unit) (t : State) => va_P D vwCl [(h0, .inl (g 1, 1, .inr (.inl (fun _ => 0))))] t.heap ∧ va_D (va_A [(h0, .inl (g 1, 1, .inr (.inl (fun _ => 0)))), ((a 0), f_x a), ((a 4), f_words a), ((a 47), .inl (g 0, 256, .inl (fun _ => 0))), ((a 1), f_net a), ((a 2), f_book a)] sz) [(h0, .inl (g 1, 1, .inr (.inl (fun _ => 0))))]) (va_A [(h0, .inl (g 1, 1, .inr (.inl (fun _ => 0)))), ((a 0), f_x a), ((a 4), f_words a), ((a 47), .inl (g 0, 256, .inl (fun _ => 0))), ((a 1), f_net a), ((a 2), f_book a)] sz)) 1 6 (va_A [(h0, .inl (g 1, 1, .inr (.inl (fun _ => 0)))), ((a 0), f_x a), ((a 4), f_words a), ((a 47), .inl (g 0, 256, .inl (fun _ => 0))), ((a 1), f_net a), ((a 2), f_book a)] sz) := by
  refine metW0 (cc := cL_hardest) (n := 3) (hh := [(0, 8, 11, 86)]) (by decide) (Nat.le_of_ble_eq_true rfl) ?_
  intro p e s m args below meth c hx hb hr hml htab hown ht hlocks hnm hP0 hD0 hK hZ hsz hz ls hl
  subst hsz
  have hA : ∀ q : Nat, s.heap.size ≤ q → va_A [(h0, .inl (g 1, 1, .inr (.inl (fun _ => 0)))), ((a 0), f_x a), ((a 4), f_words a), ((a 47), .inl (g 0, 256, .inl (fun _ => 0))), ((a 1), f_net a), ((a 2), f_book a)] s.heap.size q := Anw
  have hAz : ∀ q, va_A [(h0, .inl (g 1, 1, .inr (.inl (fun _ => 0)))), ((a 0), f_x a), ((a 4), f_words a), ((a 47), .inl (g 0, 256, .inl (fun _ => 0))), ((a 1), f_net a), ((a 2), f_book a)] s.heap.size q → z0 ≤ q := Awz hz hD0
  have hS : va_S (va_A [(h0, .inl (g 1, 1, .inr (.inl (fun _ => 0)))), ((a 0), f_x a), ((a 4), f_words a), ((a 47), .inl (g 0, 256, .inl (fun _ => 0))), ((a 1), f_net a), ((a 2), f_book a)] s.heap.size) s.heap s.heap [] := va_S.rf
  have hD : va_D (va_A [(h0, .inl (g 1, 1, .inr (.inl (fun _ => 0)))), ((a 0), f_x a), ((a 4), f_words a), ((a 47), .inl (g 0, 256, .inl (fun _ => 0))), ((a 1), f_net a), ((a 2), f_book a)] s.heap.size) [(h0, .inl (g 1, 1, .inr (.inl (fun _ => 0)))), ((a 0), f_x a), ((a 4), f_words a), ((a 47), .inl (g 0, 256, .inl (fun _ => 0))), ((a 1), f_net a), ((a 2), f_book a)] := hD0.self
  have hP : va_P D vwCl [(h0, .inl (g 1, 1, .inr (.inl (fun _ => 0)))), ((a 0), f_x a), ((a 4), f_words a), ((a 47), .inl (g 0, 256, .inl (fun _ => 0))), ((a 1), f_net a), ((a 2), f_book a)] s.heap := hP0
  have hl : lv_has ls 3 [(0, .ref (a 0)), (1, .ref h0)] := hl
  refine lv_aload_n hx hb dL_hardest_0 rfl (lv_at hl 1 rfl) ?_
  refine lv_iconst (v := 0) hx hb dL_hardest_1 (by decide) ?_
  refine lv_aload_n hx hb dL_hardest_2 rfl (lv_at hl 0 rfl) ?_
  have hPc : va_P D vwCl [((a 0), f_x a), ((a 4), f_words a), ((a 47), .inl (g 0, 256, .inl (fun _ => 0))), ((a 1), f_net a), ((a 2), f_book a)] _ := hP.sub (ws' := [((a 0), f_x a), ((a 4), f_words a), ((a 47), .inl (g 0, 256, .inl (fun _ => 0))), ((a 1), f_net a), ((a 2), f_book a)]) [1, 2, 3, 4, 5] rfl
  have hDc : va_D (fun q => z0 ≤ q) [((a 0), f_x a), ((a 4), f_words a), ((a 47), .inl (g 0, 256, .inl (fun _ => 0))), ((a 1), f_net a), ((a 2), f_book a)] := (hD.to hAz).pick (ws' := [((a 0), f_x a), ((a 4), f_words a), ((a 47), .inl (g 0, 256, .inl (fun _ => 0))), ((a 1), f_net a), ((a 2), f_book a)]) [1, 2, 3, 4, 5] (by decide) rfl
  have hFc := va_free (wc := [((a 0), f_x a), ((a 4), f_words a), ((a 47), .inl (g 0, 256, .inl (fun _ => 0))), ((a 1), f_net a), ((a 2), f_book a)]) hD hS hA [1, 2, 3, 4, 5] rfl
  refine vx_calli (vx_runV (As := []) (rest := [.int 0, .ref h0]) ⟨hx, hb, hml, hown, ht⟩ (k_X11_hardest l hfl D g z0 _ a) (cwV 0 ht (gV w_628 w_630 w_631 w_31 w_629) rfl rfl rfl (by decide +kernel) (le2 rfl rfl)) ⟨PP.blind, va_recv hK.1 hP (ci := 17) (q0 := 1) rfl rfl, PP.mk' hK hZ hz hAz hS hPc hDc⟩ rfl rfl hl.1 rfl (lv_room (Nat.le_of_ble_eq_true rfl)) dL_hardest_3 (le2 rfl rfl)) hS (fun q _ h => hFc q h) hFc (fun q _ h => hFc q h) (fun E ce q9 u t H locs ht1 hvm hw hB hz1 hk1 hS hcell hv9 hcl => ?_) (fun r u t H locs ht1 hvm hw hB hz1 hk1 hS => ?_)
  · obtain ⟨hP, hD⟩ := va_join (wr := [(h0, .inl (g 1, 1, .inr (.inl (fun _ => 0))))]) (w1 := []) hP hD [1, 2, 3, 4, 5] [0] rfl rfl (by decide) (by decide) hk1 hFc nil_P nil_D
    have hP : va_P D vwCl [(h0, .inl (g 1, 1, .inr (.inl (fun _ => 0))))] H := hP
    have hD : va_D (va_A [(h0, .inl (g 1, 1, .inr (.inl (fun _ => 0)))), ((a 0), f_x a), ((a 4), f_words a), ((a 47), .inl (g 0, 256, .inl (fun _ => 0))), ((a 1), f_net a), ((a 2), f_book a)] s.heap.size) [(h0, .inl (g 1, 1, .inr (.inl (fun _ => 0))))] := hD
    obtain ⟨rfl, hB⟩ := hB
    refine vx_catch hown [] ⟨0, 8, 11, 86⟩ [] (htab.trans rfl) (fun _ h9 => absurd h9 List.not_mem_nil) (by decide) (by decide) (ht _ w_568) (hK.2.2.use w_569) hcell hv9 hcl ?_
    refine W.eq (g2 := F0 m 11 ls [.ref q9]) rfl ?_
    refine lv_astore_n (lv' := [(2, .ref q9), (0, .ref (a 0)), (1, .ref h0)]) hx hb dL_hardest_11 rfl hl (by decide) rfl (fun ls hl => ?_)
    refine lv_iconst (v := 1) hx hb dL_hardest_12 (by decide) ?_
    have hP9 := hP.sub (ws' := [(h0, .inl (g 1, 1, .inr (.inl (fun _ => 0))))]) [0] rfl
    have hD9 := hD.sub (ws' := [(h0, .inl (g 1, 1, .inr (.inl (fun _ => 0))))]) [0] (by decide) rfl
    refine W.widen (k := 1) (n := 6) (Nat.le_of_ble_eq_true rfl) (Nat.le_of_ble_eq_true rfl) ?_
    exact W.iret (v := 1) hx hb hr (fun t ht9 hW9 => ⟨⟨1, (), rfl, ⟨rfl, trivial⟩, ⟨(by rw [ht9]; exact hP9), hD9⟩⟩, hS.F ht9⟩) hS.2.2 dL_hardest_13 hlocks
  · exact hw.elim
set_option maxHeartbeats 4000000 in
set_option maxRecDepth 100000 in
theorem k_L_input (l : Launch) (D : va_G) (g : Nat → ClassId) (z0 sz : Nat) (a : Nat → Nat) (h0 : Nat) : Met l yL_input (.codeWith yL_input cL_input 3 (some .int) [(0, 8, 11, 13), (0, 8, 14, 15)] :: TG) (rmk 3 0 0 63) (va_Pc [.ref (a 0), .ref h0] (PP D g z0 sz [(h0, .inl (g 1, 1, .inr (.inl (fun _ => 0)))), ((a 0), f_x a), ((a 1), f_net a), ((a 12), .inl (g 2, 40, .inl (fun _ => 0))), ((a 19), .inl (g 1, 40, .inr (.inl (fun _ => 0)))), ((a 18), .inl (g 0, 40, .inl (fun _ => (-1))))])) (va_Qi (fun (r : Int32) (u : Unit) => (r = 0) ∧ True) (fun (u : Unit) (t : State) => va_P D vwCl [(h0, .inl (g 1, 1, .inr (.inl (fun _ => 0))))] t.heap ∧ va_D (va_A [(h0, .inl (g 1, 1, .inr (.inl (fun _ => 0)))), ((a 0), f_x a), ((a 1), f_net a), ((a 12), .inl (g 2, 40, .inl (fun _ => 0))), ((a 19), .inl (g 1, 40, .inr (.inl (fun _ => 0)))), ((a 18), .inl (g 0, 40, .inl (fun _ => (-1))))] sz) [(h0, .inl (g 1, 1, .inr (.inl (fun _ => 0))))]) (va_A [(h0, .inl (g 1, 1, .inr (.inl (fun _ => 0)))), ((a 0), f_x a), ((a 1), f_net a), ((a 12), .inl (g 2, 40, .inl (fun _ => 0))), ((a 19), .inl (g 1, 40, .inr (.inl (fun _ => 0)))), ((a 18), .inl (g 0, 40, .inl (fun _ => (-1))))] sz)) 0 0 (va_A [(h0, .inl (g 1, 1, .inr (.inl (fun _ => 0)))), ((a 0), f_x a), ((a 1), f_net a), ((a 12), .inl (g 2, 40, .inl (fun _ => 0))), ((a 19), .inl (g 1, 40, .inr (.inl (fun _ => 0)))), ((a 18), .inl (g 0, 40, .inl (fun _ => (-1))))] sz) := by
  refine metW0 (cc := cL_input) (n := 3) (hh := [(0, 8, 11, 13), (0, 8, 14, 15)]) (by decide) (Nat.le_of_ble_eq_true rfl) ?_
  intro p e s m args below meth c hx hb hr hml htab hown ht hlocks hnm hP0 hD0 hK hZ hsz hz ls hl
  subst hsz
  have hA : ∀ q : Nat, s.heap.size ≤ q → va_A [(h0, .inl (g 1, 1, .inr (.inl (fun _ => 0)))), ((a 0), f_x a), ((a 1), f_net a), ((a 12), .inl (g 2, 40, .inl (fun _ => 0))), ((a 19), .inl (g 1, 40, .inr (.inl (fun _ => 0)))), ((a 18), .inl (g 0, 40, .inl (fun _ => (-1))))] s.heap.size q := Anw
  have hAz : ∀ q, va_A [(h0, .inl (g 1, 1, .inr (.inl (fun _ => 0)))), ((a 0), f_x a), ((a 1), f_net a), ((a 12), .inl (g 2, 40, .inl (fun _ => 0))), ((a 19), .inl (g 1, 40, .inr (.inl (fun _ => 0)))), ((a 18), .inl (g 0, 40, .inl (fun _ => (-1))))] s.heap.size q → z0 ≤ q := Awz hz hD0
  have hS : va_S (va_A [(h0, .inl (g 1, 1, .inr (.inl (fun _ => 0)))), ((a 0), f_x a), ((a 1), f_net a), ((a 12), .inl (g 2, 40, .inl (fun _ => 0))), ((a 19), .inl (g 1, 40, .inr (.inl (fun _ => 0)))), ((a 18), .inl (g 0, 40, .inl (fun _ => (-1))))] s.heap.size) s.heap s.heap [] := va_S.rf
  have hD : va_D (va_A [(h0, .inl (g 1, 1, .inr (.inl (fun _ => 0)))), ((a 0), f_x a), ((a 1), f_net a), ((a 12), .inl (g 2, 40, .inl (fun _ => 0))), ((a 19), .inl (g 1, 40, .inr (.inl (fun _ => 0)))), ((a 18), .inl (g 0, 40, .inl (fun _ => (-1))))] s.heap.size) [(h0, .inl (g 1, 1, .inr (.inl (fun _ => 0)))), ((a 0), f_x a), ((a 1), f_net a), ((a 12), .inl (g 2, 40, .inl (fun _ => 0))), ((a 19), .inl (g 1, 40, .inr (.inl (fun _ => 0)))), ((a 18), .inl (g 0, 40, .inl (fun _ => (-1))))] := hD0.self
  have hP : va_P D vwCl [(h0, .inl (g 1, 1, .inr (.inl (fun _ => 0)))), ((a 0), f_x a), ((a 1), f_net a), ((a 12), .inl (g 2, 40, .inl (fun _ => 0))), ((a 19), .inl (g 1, 40, .inr (.inl (fun _ => 0)))), ((a 18), .inl (g 0, 40, .inl (fun _ => (-1))))] s.heap := hP0
  have hl : lv_has ls 3 [(0, .ref (a 0)), (1, .ref h0)] := hl
  refine lv_aload_n hx hb dL_input_0 rfl (lv_at hl 1 rfl) ?_
  refine lv_iconst (v := 0) hx hb dL_input_1 (by decide) ?_
  refine lv_aload_n hx hb dL_input_2 rfl (lv_at hl 0 rfl) ?_
  have hPc : va_P D vwCl [((a 0), f_x a), ((a 1), f_net a), ((a 12), .inl (g 2, 40, .inl (fun _ => 0))), ((a 19), .inl (g 1, 40, .inr (.inl (fun _ => 0)))), ((a 18), .inl (g 0, 40, .inl (fun _ => (-1))))] _ := hP.sub (ws' := [((a 0), f_x a), ((a 1), f_net a), ((a 12), .inl (g 2, 40, .inl (fun _ => 0))), ((a 19), .inl (g 1, 40, .inr (.inl (fun _ => 0)))), ((a 18), .inl (g 0, 40, .inl (fun _ => (-1))))]) [1, 2, 3, 4, 5] rfl
  have hDc : va_D (fun q => z0 ≤ q) [((a 0), f_x a), ((a 1), f_net a), ((a 12), .inl (g 2, 40, .inl (fun _ => 0))), ((a 19), .inl (g 1, 40, .inr (.inl (fun _ => 0)))), ((a 18), .inl (g 0, 40, .inl (fun _ => (-1))))] := (hD.to hAz).pick (ws' := [((a 0), f_x a), ((a 1), f_net a), ((a 12), .inl (g 2, 40, .inl (fun _ => 0))), ((a 19), .inl (g 1, 40, .inr (.inl (fun _ => 0)))), ((a 18), .inl (g 0, 40, .inl (fun _ => (-1))))]) [1, 2, 3, 4, 5] (by decide) rfl
  have hFc := va_free (wc := [((a 0), f_x a), ((a 1), f_net a), ((a 12), .inl (g 2, 40, .inl (fun _ => 0))), ((a 19), .inl (g 1, 40, .inr (.inl (fun _ => 0)))), ((a 18), .inl (g 0, 40, .inl (fun _ => (-1))))]) hD hS hA [1, 2, 3, 4, 5] rfl
  refine va_calli (va_runV (As := []) (rest := [.int 0, .ref h0]) ⟨hx, hb, hml, hown, ht⟩ (k_X11_input l D g z0 _ a) (cwV 0 ht (gV w_632 w_634 w_635 w_31 w_633) rfl rfl rfl (by decide +kernel) (le2 rfl rfl)) ⟨PP.blind, va_recv hK.1 hP (ci := 17) (q0 := 1) rfl rfl, PP.mk' hK hZ hz hAz hS hPc hDc⟩ rfl rfl hl.1 rfl (lv_room (Nat.le_of_ble_eq_true rfl)) dL_input_3 (le2 rfl rfl)) hS (fun q _ h => hFc q h) hFc (fun r u t H locs ht1 hvm hw hB hz1 hk1 hS => ?_)
  obtain ⟨rfl, hw⟩ := hw
  obtain ⟨hP1, hD1⟩ := hB
  rw [ht1] at hP1
  obtain ⟨hP, hD⟩ := va_join (wr := [(h0, .inl (g 1, 1, .inr (.inl (fun _ => 0))))]) (w1 := []) hP hD [1, 2, 3, 4, 5] [0] rfl rfl (by decide) (by decide) hk1 hFc hP1 hD1
  have hP : va_P D vwCl [(h0, .inl (g 1, 1, .inr (.inl (fun _ => 0))))] H := hP
  have hD : va_D (va_A [(h0, .inl (g 1, 1, .inr (.inl (fun _ => 0)))), ((a 0), f_x a), ((a 1), f_net a), ((a 12), .inl (g 2, 40, .inl (fun _ => 0))), ((a 19), .inl (g 1, 40, .inr (.inl (fun _ => 0)))), ((a 18), .inl (g 0, 40, .inl (fun _ => (-1))))] s.heap.size) [(h0, .inl (g 1, 1, .inr (.inl (fun _ => 0))))] := hD
  refine lv_i2l (v := 0) hx hb dL_input_6 (by decide) ?_
  refine va_last hx hb hK.1 hP hD hS 0 1 rfl rfl (by unfold vp_in; decide) dL_input_7 (fun H locs hP hD hS => ?_)
  have hP : va_P D vwCl [(h0, .inl (g 1, 1, .inr (.inl (vp_updL (fun _ => 0) (0 : Int32).toNatClampNeg 0))))] H := hP
  have hD : va_D (va_A [(h0, .inl (g 1, 1, .inr (.inl (fun _ => 0)))), ((a 0), f_x a), ((a 1), f_net a), ((a 12), .inl (g 2, 40, .inl (fun _ => 0))), ((a 19), .inl (g 1, 40, .inr (.inl (fun _ => 0)))), ((a 18), .inl (g 0, 40, .inl (fun _ => (-1))))] s.heap.size) [(h0, .inl (g 1, 1, .inr (.inl (vp_updL (fun _ => 0) (0 : Int32).toNatClampNeg 0))))] := hD
  have hP := one_up (v := 0) hP 0 rfl rfl
  have hD := va_D.set (p := 0) (e := .inl (g 1, 1, .inr (.inl (fun _ => 0)))) hD rfl
  have hP : va_P D vwCl [(h0, .inl (g 1, 1, .inr (.inl (fun _ => 0))))] H := hP
  have hD : va_D (va_A [(h0, .inl (g 1, 1, .inr (.inl (fun _ => 0)))), ((a 0), f_x a), ((a 1), f_net a), ((a 12), .inl (g 2, 40, .inl (fun _ => 0))), ((a 19), .inl (g 1, 40, .inr (.inl (fun _ => 0)))), ((a 18), .inl (g 0, 40, .inl (fun _ => (-1))))] s.heap.size) [(h0, .inl (g 1, 1, .inr (.inl (fun _ => 0))))] := hD
  refine lv_goto (tgt := 17) hx hb dL_input_8 (by decide) ?_
  refine lv_iconst (v := 0) hx hb dL_input_17 (by decide) ?_
  have hP9 := hP.sub (ws' := [(h0, .inl (g 1, 1, .inr (.inl (fun _ => 0))))]) [0] rfl
  have hD9 := hD.sub (ws' := [(h0, .inl (g 1, 1, .inr (.inl (fun _ => 0))))]) [0] (by decide) rfl
  refine W.widen (k := 0) (n := 0) (Nat.le_of_ble_eq_true rfl) (Nat.le_of_ble_eq_true rfl) ?_
  exact W.iret (v := 0) hx hb hr (fun t ht9 hW9 => ⟨⟨0, (), rfl, ⟨rfl, trivial⟩, ⟨(by rw [ht9]; exact hP9), hD9⟩⟩, hS.F ht9⟩) hS.2.2 dL_input_18 hlocks
set_option maxHeartbeats 4000000 in
set_option maxRecDepth 100000 in
theorem k_L_isImpossible (l : Launch) (hfl : l.stackTraces = false) (D : va_G) (g : Nat → ClassId) (z0 sz : Nat) (a : Nat → Nat) (p0 : Int32) (h0 : Nat) : Met l yL_isImpossible (.codeWith yL_isImpossible cL_isImpossible 4 (some .int) [(0, 16, 19, 26), (0, 16, 22, 24)] :: TG) (rmk 9 1 6 144) (va_Pc [.ref (a 0), .int p0, .ref h0] (PP D g z0 sz [(h0, .inl (g 1, 1, .inr (.inl (fun _ => 0)))), ((a 0), f_x a), ((a 2), f_book a)])) (va_Qi (fun (r : Int32) (u : Unit) => (r = 1) ∧ True) (fun (u : Unit) (t : State) => va_P D vwCl [(h0, .inl (g 1, 1, .inr (.inl (fun _ => 0))))] t.heap ∧ va_D (va_A [(h0, .inl (g 1, 1, .inr (.inl (fun _ => 0)))), ((a 0), f_x a), ((a 2), f_book a)] sz) [(h0, .inl (g 1, 1, .inr (.inl (fun _ => 0))))]) (va_A [(h0, .inl (g 1, 1, .inr (.inl (fun _ => 0)))), ((a 0), f_x a), ((a 2), f_book a)] sz)) 1 6 (va_A [(h0, .inl (g 1, 1, .inr (.inl (fun _ => 0)))), ((a 0), f_x a), ((a 2), f_book a)] sz) := by
  refine metW0 (cc := cL_isImpossible) (n := 4) (hh := [(0, 16, 19, 26), (0, 16, 22, 24)]) (by decide) (Nat.le_of_ble_eq_true rfl) ?_
  intro p e s m args below meth c hx hb hr hml htab hown ht hlocks hnm hP0 hD0 hK hZ hsz hz ls hl
  subst hsz
  have hA : ∀ q : Nat, s.heap.size ≤ q → va_A [(h0, .inl (g 1, 1, .inr (.inl (fun _ => 0)))), ((a 0), f_x a), ((a 2), f_book a)] s.heap.size q := Anw
  have hAz : ∀ q, va_A [(h0, .inl (g 1, 1, .inr (.inl (fun _ => 0)))), ((a 0), f_x a), ((a 2), f_book a)] s.heap.size q → z0 ≤ q := Awz hz hD0
  have hS : va_S (va_A [(h0, .inl (g 1, 1, .inr (.inl (fun _ => 0)))), ((a 0), f_x a), ((a 2), f_book a)] s.heap.size) s.heap s.heap [] := va_S.rf
  have hD : va_D (va_A [(h0, .inl (g 1, 1, .inr (.inl (fun _ => 0)))), ((a 0), f_x a), ((a 2), f_book a)] s.heap.size) [(h0, .inl (g 1, 1, .inr (.inl (fun _ => 0)))), ((a 0), f_x a), ((a 2), f_book a)] := hD0.self
  have hP : va_P D vwCl [(h0, .inl (g 1, 1, .inr (.inl (fun _ => 0)))), ((a 0), f_x a), ((a 2), f_book a)] s.heap := hP0
  have hl : lv_has ls 4 [(0, .ref (a 0)), (1, .int p0), (2, .ref h0)] := hl
  refine lv_aload_n hx hb dL_isImpossible_0 rfl (lv_at hl 2 rfl) ?_
  refine lv_iconst (v := 0) hx hb dL_isImpossible_1 (by decide) ?_
  refine lv_aload_n hx hb dL_isImpossible_2 rfl (lv_at hl 0 rfl) ?_
  refine lv_iload_n hx hb dL_isImpossible_3 rfl (lv_at hl 1 rfl) ?_
  have hPc : va_P D vwCl [((a 0), f_x a), ((a 2), f_book a)] _ := hP.sub (ws' := [((a 0), f_x a), ((a 2), f_book a)]) [1, 2] rfl
  have hDc : va_D (fun q => z0 ≤ q) [((a 0), f_x a), ((a 2), f_book a)] := (hD.to hAz).pick (ws' := [((a 0), f_x a), ((a 2), f_book a)]) [1, 2] (by decide) rfl
  have hFc := AnA (ws := [(h0, .inl (g 1, 1, .inr (.inl (fun _ => 0)))), ((a 0), f_x a), ((a 2), f_book a)]) hS.1
  refine vx_calli (vx_runV (As := [.int p0]) (rest := [.int 0, .ref h0]) ⟨hx, hb, hml, hown, ht⟩ (k_X11_isImpossible l hfl D g z0 _ a p0) (cwV 1 ht (gV w_636 w_638 w_639 w_31 w_637) rfl rfl rfl (by decide +kernel) (le2 rfl rfl)) ⟨PP.blind, va_recv hK.1 hP (ci := 17) (q0 := 1) rfl rfl, PP.mk' hK hZ hz hAz hS hPc hDc⟩ rfl rfl hl.1 rfl (lv_room (Nat.le_of_ble_eq_true rfl)) dL_isImpossible_4 (le2 rfl rfl)) hS (fun q _ h => hFc q h) hFc (fun q _ h => hFc q h) (fun E ce q9 u t H locs ht1 hvm hw hB hz1 hk1 hS hcell hv9 hcl => ?_) (fun r u t H locs ht1 hvm hw hB hz1 hk1 hS => ?_)
  · have hP := ro1 hP hk1
    obtain ⟨rfl, hB⟩ := hB
    refine vx_catch hown [] ⟨0, 16, 19, 26⟩ [⟨0, 16, 22, 24⟩] (htab.trans rfl) (fun _ h9 => absurd h9 List.not_mem_nil) (by decide) (by decide) (ht _ w_534) (hK.2.2.use w_535) hcell hv9 hcl ?_
    refine W.eq (g2 := F0 m 19 ls [.ref q9]) rfl ?_
    refine lv_astore_n (lv' := [(3, .ref q9), (0, .ref (a 0)), (1, .int p0), (2, .ref h0)]) hx hb dL_isImpossible_19 rfl hl (by decide) rfl (fun ls hl => ?_)
    refine lv_iconst (v := 1) hx hb dL_isImpossible_20 (by decide) ?_
    have hP9 := hP.sub (ws' := [(h0, .inl (g 1, 1, .inr (.inl (fun _ => 0))))]) [0] rfl
    have hD9 := hD.sub (ws' := [(h0, .inl (g 1, 1, .inr (.inl (fun _ => 0))))]) [0] (by decide) rfl
    refine W.widen (k := 1) (n := 6) (Nat.le_of_ble_eq_true rfl) (Nat.le_of_ble_eq_true rfl) ?_
    exact W.iret (v := 1) hx hb hr (fun t ht9 hW9 => ⟨⟨1, (), rfl, ⟨rfl, trivial⟩, ⟨(by rw [ht9]; exact hP9), hD9⟩⟩, hS.F ht9⟩) hS.2.2 dL_isImpossible_21 hlocks
  · exact hw.elim
set_option maxHeartbeats 4000000 in
set_option maxRecDepth 100000 in
theorem k_L_known (l : Launch) (hfl : l.stackTraces = false) (D : va_G) (g : Nat → ClassId) (z0 sz : Nat) (a : Nat → Nat) (p0 : Int32) (p1 : Int32) (h0 : Nat) : Met l yL_known (.codeWith yL_known cL_known 5 (some .int) [(0, 10, 13, 26)] :: TG) (rmk 8 1 6 124) (va_Pc [.ref (a 0), .int p0, .int p1, .ref h0] (PP D g z0 sz [(h0, .inl (g 1, 1, .inr (.inl (fun _ => 0)))), ((a 0), f_x a), ((a 3), f_rows a)])) (va_Qi (fun (r : Int32) (u : Unit) => (r = 1) ∧ True) (fun (u : Unit) (t : State) => va_P D vwCl [(h0, .inl (g 1, 1, .inr (.inl (fun _ => 0))))] t.heap ∧ va_D (va_A [(h0, .inl (g 1, 1, .inr (.inl (fun _ => 0)))), ((a 0), f_x a), ((a 3), f_rows a)] sz) [(h0, .inl (g 1, 1, .inr (.inl (fun _ => 0))))]) (va_A [(h0, .inl (g 1, 1, .inr (.inl (fun _ => 0)))), ((a 0), f_x a), ((a 3), f_rows a)] sz)) 1 6 (va_A [(h0, .inl (g 1, 1, .inr (.inl (fun _ => 0)))), ((a 0), f_x a), ((a 3), f_rows a)] sz) := by
  refine metW0 (cc := cL_known) (n := 5) (hh := [(0, 10, 13, 26)]) (by decide) (Nat.le_of_ble_eq_true rfl) ?_
  intro p e s m args below meth c hx hb hr hml htab hown ht hlocks hnm hP0 hD0 hK hZ hsz hz ls hl
  subst hsz
  have hA : ∀ q : Nat, s.heap.size ≤ q → va_A [(h0, .inl (g 1, 1, .inr (.inl (fun _ => 0)))), ((a 0), f_x a), ((a 3), f_rows a)] s.heap.size q := Anw
  have hAz : ∀ q, va_A [(h0, .inl (g 1, 1, .inr (.inl (fun _ => 0)))), ((a 0), f_x a), ((a 3), f_rows a)] s.heap.size q → z0 ≤ q := Awz hz hD0
  have hS : va_S (va_A [(h0, .inl (g 1, 1, .inr (.inl (fun _ => 0)))), ((a 0), f_x a), ((a 3), f_rows a)] s.heap.size) s.heap s.heap [] := va_S.rf
  have hD : va_D (va_A [(h0, .inl (g 1, 1, .inr (.inl (fun _ => 0)))), ((a 0), f_x a), ((a 3), f_rows a)] s.heap.size) [(h0, .inl (g 1, 1, .inr (.inl (fun _ => 0)))), ((a 0), f_x a), ((a 3), f_rows a)] := hD0.self
  have hP : va_P D vwCl [(h0, .inl (g 1, 1, .inr (.inl (fun _ => 0)))), ((a 0), f_x a), ((a 3), f_rows a)] s.heap := hP0
  have hl : lv_has ls 5 [(0, .ref (a 0)), (1, .int p0), (2, .int p1), (3, .ref h0)] := hl
  refine lv_aload_n hx hb dL_known_0 rfl (lv_at hl 3 rfl) ?_
  refine lv_iconst (v := 0) hx hb dL_known_1 (by decide) ?_
  refine lv_aload_n hx hb dL_known_2 rfl (lv_at hl 0 rfl) ?_
  refine lv_iload_n hx hb dL_known_3 rfl (lv_at hl 1 rfl) ?_
  refine lv_iload_n hx hb dL_known_4 rfl (lv_at hl 2 rfl) ?_
  have hPc : va_P D vwCl [((a 0), f_x a), ((a 3), f_rows a)] _ := hP.sub (ws' := [((a 0), f_x a), ((a 3), f_rows a)]) [1, 2] rfl
  have hDc : va_D (fun q => z0 ≤ q) [((a 0), f_x a), ((a 3), f_rows a)] := (hD.to hAz).pick (ws' := [((a 0), f_x a), ((a 3), f_rows a)]) [1, 2] (by decide) rfl
  have hFc := AnA (ws := [(h0, .inl (g 1, 1, .inr (.inl (fun _ => 0)))), ((a 0), f_x a), ((a 3), f_rows a)]) hS.1
  refine vx_calli (vx_runV (As := [.int p0, .int p1]) (rest := [.int 0, .ref h0]) ⟨hx, hb, hml, hown, ht⟩ (k_X11_known l hfl D g z0 _ a p0 p1) (cwV 2 ht (gV w_640 w_642 w_643 w_31 w_641) rfl rfl rfl (by decide +kernel) (le2 rfl rfl)) ⟨PP.blind, va_recv hK.1 hP (ci := 17) (q0 := 1) rfl rfl, PP.mk' hK hZ hz hAz hS hPc hDc⟩ rfl rfl hl.1 rfl (lv_room (Nat.le_of_ble_eq_true rfl)) dL_known_5 (le2 rfl rfl)) hS (fun q _ h => hFc q h) hFc (fun q _ h => hFc q h) (fun E ce q9 u t H locs ht1 hvm hw hB hz1 hk1 hS hcell hv9 hcl => ?_) (fun r u t H locs ht1 hvm hw hB hz1 hk1 hS => ?_)
  · have hP := ro1 hP hk1
    obtain ⟨rfl, hB⟩ := hB
    refine vx_catch hown [] ⟨0, 10, 13, 26⟩ [] (htab.trans rfl) (fun _ h9 => absurd h9 List.not_mem_nil) (by decide) (by decide) (ht _ w_534) (hK.2.2.use w_535) hcell hv9 hcl ?_
    refine W.eq (g2 := F0 m 13 ls [.ref q9]) rfl ?_
    refine lv_astore (lv' := [(4, .ref q9), (0, .ref (a 0)), (1, .int p0), (2, .int p1), (3, .ref h0)]) hx hb dL_known_13 hl (by decide) rfl (fun ls hl => ?_)
    refine lv_iconst (v := 1) hx hb dL_known_15 (by decide) ?_
    have hP9 := hP.sub (ws' := [(h0, .inl (g 1, 1, .inr (.inl (fun _ => 0))))]) [0] rfl
    have hD9 := hD.sub (ws' := [(h0, .inl (g 1, 1, .inr (.inl (fun _ => 0))))]) [0] (by decide) rfl
    refine W.widen (k := 1) (n := 6) (Nat.le_of_ble_eq_true rfl) (Nat.le_of_ble_eq_true rfl) ?_
    exact W.iret (v := 1) hx hb hr (fun t ht9 hW9 => ⟨⟨1, (), rfl, ⟨rfl, trivial⟩, ⟨(by rw [ht9]; exact hP9), hD9⟩⟩, hS.F ht9⟩) hS.2.2 dL_known_16 hlocks
  · exact hw.elim
set_option maxHeartbeats 4000000 in
set_option maxRecDepth 100000 in
theorem k_L_least (l : Launch) (hfl : l.stackTraces = false) (D : va_G) (g : Nat → ClassId) (z0 sz : Nat) (a : Nat → Nat) (p0 : Int32) (p1 : Int32) (h0 : Nat) : Met l yL_least (.codeWith yL_least cL_least 5 (some .int) [(0, 10, 13, 86)] :: TG) (rmk 8 1 6 125) (va_Pc [.ref (a 0), .int p0, .int p1, .ref h0] (PP D g z0 sz [(h0, .inl (g 1, 1, .inr (.inl (fun _ => 0)))), ((a 0), f_x a), ((a 11), f_cores a)])) (va_Qi (fun (r : Int32) (u : Unit) => (r = 1) ∧ True) (fun (u : Unit) (t : State) => va_P D vwCl [(h0, .inl (g 1, 1, .inr (.inl (fun _ => 0))))] t.heap ∧ va_D (va_A [(h0, .inl (g 1, 1, .inr (.inl (fun _ => 0)))), ((a 0), f_x a), ((a 11), f_cores a)] sz) [(h0, .inl (g 1, 1, .inr (.inl (fun _ => 0))))]) (va_A [(h0, .inl (g 1, 1, .inr (.inl (fun _ => 0)))), ((a 0), f_x a), ((a 11), f_cores a)] sz)) 1 6 (va_A [(h0, .inl (g 1, 1, .inr (.inl (fun _ => 0)))), ((a 0), f_x a), ((a 11), f_cores a)] sz) := by
  refine metW0 (cc := cL_least) (n := 5) (hh := [(0, 10, 13, 86)]) (by decide) (Nat.le_of_ble_eq_true rfl) ?_
  intro p e s m args below meth c hx hb hr hml htab hown ht hlocks hnm hP0 hD0 hK hZ hsz hz ls hl
  subst hsz
  have hA : ∀ q : Nat, s.heap.size ≤ q → va_A [(h0, .inl (g 1, 1, .inr (.inl (fun _ => 0)))), ((a 0), f_x a), ((a 11), f_cores a)] s.heap.size q := Anw
  have hAz : ∀ q, va_A [(h0, .inl (g 1, 1, .inr (.inl (fun _ => 0)))), ((a 0), f_x a), ((a 11), f_cores a)] s.heap.size q → z0 ≤ q := Awz hz hD0
  have hS : va_S (va_A [(h0, .inl (g 1, 1, .inr (.inl (fun _ => 0)))), ((a 0), f_x a), ((a 11), f_cores a)] s.heap.size) s.heap s.heap [] := va_S.rf
  have hD : va_D (va_A [(h0, .inl (g 1, 1, .inr (.inl (fun _ => 0)))), ((a 0), f_x a), ((a 11), f_cores a)] s.heap.size) [(h0, .inl (g 1, 1, .inr (.inl (fun _ => 0)))), ((a 0), f_x a), ((a 11), f_cores a)] := hD0.self
  have hP : va_P D vwCl [(h0, .inl (g 1, 1, .inr (.inl (fun _ => 0)))), ((a 0), f_x a), ((a 11), f_cores a)] s.heap := hP0
  have hl : lv_has ls 5 [(0, .ref (a 0)), (1, .int p0), (2, .int p1), (3, .ref h0)] := hl
  refine lv_aload_n hx hb dL_least_0 rfl (lv_at hl 3 rfl) ?_
  refine lv_iconst (v := 0) hx hb dL_least_1 (by decide) ?_
  refine lv_aload_n hx hb dL_least_2 rfl (lv_at hl 0 rfl) ?_
  refine lv_iload_n hx hb dL_least_3 rfl (lv_at hl 1 rfl) ?_
  refine lv_iload_n hx hb dL_least_4 rfl (lv_at hl 2 rfl) ?_
  have hPc : va_P D vwCl [((a 0), f_x a), ((a 11), f_cores a)] _ := hP.sub (ws' := [((a 0), f_x a), ((a 11), f_cores a)]) [1, 2] rfl
  have hDc : va_D (fun q => z0 ≤ q) [((a 0), f_x a), ((a 11), f_cores a)] := (hD.to hAz).pick (ws' := [((a 0), f_x a), ((a 11), f_cores a)]) [1, 2] (by decide) rfl
  have hFc := AnA (ws := [(h0, .inl (g 1, 1, .inr (.inl (fun _ => 0)))), ((a 0), f_x a), ((a 11), f_cores a)]) hS.1
  refine vx_calli (vx_runV (As := [.int p0, .int p1]) (rest := [.int 0, .ref h0]) ⟨hx, hb, hml, hown, ht⟩ (k_X11_least l hfl D g z0 _ a p0 p1) (cwV 2 ht (gV w_644 w_646 w_647 w_31 w_645) rfl rfl rfl (by decide +kernel) (le2 rfl rfl)) ⟨PP.blind, va_recv hK.1 hP (ci := 17) (q0 := 1) rfl rfl, PP.mk' hK hZ hz hAz hS hPc hDc⟩ rfl rfl hl.1 rfl (lv_room (Nat.le_of_ble_eq_true rfl)) dL_least_5 (le2 rfl rfl)) hS (fun q _ h => hFc q h) hFc (fun q _ h => hFc q h) (fun E ce q9 u t H locs ht1 hvm hw hB hz1 hk1 hS hcell hv9 hcl => ?_) (fun r u t H locs ht1 hvm hw hB hz1 hk1 hS => ?_)
  · have hP := ro1 hP hk1
    obtain ⟨rfl, hB⟩ := hB
    refine vx_catch hown [] ⟨0, 10, 13, 86⟩ [] (htab.trans rfl) (fun _ h9 => absurd h9 List.not_mem_nil) (by decide) (by decide) (ht _ w_568) (hK.2.2.use w_569) hcell hv9 hcl ?_
    refine W.eq (g2 := F0 m 13 ls [.ref q9]) rfl ?_
    refine lv_astore (lv' := [(4, .ref q9), (0, .ref (a 0)), (1, .int p0), (2, .int p1), (3, .ref h0)]) hx hb dL_least_13 hl (by decide) rfl (fun ls hl => ?_)
    refine lv_iconst (v := 1) hx hb dL_least_15 (by decide) ?_
    have hP9 := hP.sub (ws' := [(h0, .inl (g 1, 1, .inr (.inl (fun _ => 0))))]) [0] rfl
    have hD9 := hD.sub (ws' := [(h0, .inl (g 1, 1, .inr (.inl (fun _ => 0))))]) [0] (by decide) rfl
    refine W.widen (k := 1) (n := 6) (Nat.le_of_ble_eq_true rfl) (Nat.le_of_ble_eq_true rfl) ?_
    exact W.iret (v := 1) hx hb hr (fun t ht9 hW9 => ⟨⟨1, (), rfl, ⟨rfl, trivial⟩, ⟨(by rw [ht9]; exact hP9), hD9⟩⟩, hS.F ht9⟩) hS.2.2 dL_least_16 hlocks
  · exact hw.elim
set_option maxHeartbeats 4000000 in
set_option maxRecDepth 100000 in
theorem k_L_lineOf (l : Launch) (hfl : l.stackTraces = false) (D : va_G) (g : Nat → ClassId) (z0 sz : Nat) (a : Nat → Nat) (p0 : Int32) (h0 : Nat) : Met l yL_lineOf (.codeWith yL_lineOf cL_lineOf 4 (some .int) [(0, 9, 12, 26)] :: TG) (rmk 8 1 6 123) (va_Pc [.ref (a 0), .int p0, .ref h0] (PP D g z0 sz [(h0, .inl (g 1, 1, .inr (.inl (fun _ => 0)))), ((a 0), f_x a), ((a 2), f_book a)])) (va_Qi (fun (r : Int32) (u : Unit) => (r = 1) ∧ True) (fun (u : Unit) (t : State) => va_P D vwCl [(h0, .inl (g 1, 1, .inr (.inl (fun _ => 0))))] t.heap ∧ va_D (va_A [(h0, .inl (g 1, 1, .inr (.inl (fun _ => 0)))), ((a 0), f_x a), ((a 2), f_book a)] sz) [(h0, .inl (g 1, 1, .inr (.inl (fun _ => 0))))]) (va_A [(h0, .inl (g 1, 1, .inr (.inl (fun _ => 0)))), ((a 0), f_x a), ((a 2), f_book a)] sz)) 1 6 (va_A [(h0, .inl (g 1, 1, .inr (.inl (fun _ => 0)))), ((a 0), f_x a), ((a 2), f_book a)] sz) := by
  refine metW0 (cc := cL_lineOf) (n := 4) (hh := [(0, 9, 12, 26)]) (by decide) (Nat.le_of_ble_eq_true rfl) ?_
  intro p e s m args below meth c hx hb hr hml htab hown ht hlocks hnm hP0 hD0 hK hZ hsz hz ls hl
  subst hsz
  have hA : ∀ q : Nat, s.heap.size ≤ q → va_A [(h0, .inl (g 1, 1, .inr (.inl (fun _ => 0)))), ((a 0), f_x a), ((a 2), f_book a)] s.heap.size q := Anw
  have hAz : ∀ q, va_A [(h0, .inl (g 1, 1, .inr (.inl (fun _ => 0)))), ((a 0), f_x a), ((a 2), f_book a)] s.heap.size q → z0 ≤ q := Awz hz hD0
  have hS : va_S (va_A [(h0, .inl (g 1, 1, .inr (.inl (fun _ => 0)))), ((a 0), f_x a), ((a 2), f_book a)] s.heap.size) s.heap s.heap [] := va_S.rf
  have hD : va_D (va_A [(h0, .inl (g 1, 1, .inr (.inl (fun _ => 0)))), ((a 0), f_x a), ((a 2), f_book a)] s.heap.size) [(h0, .inl (g 1, 1, .inr (.inl (fun _ => 0)))), ((a 0), f_x a), ((a 2), f_book a)] := hD0.self
  have hP : va_P D vwCl [(h0, .inl (g 1, 1, .inr (.inl (fun _ => 0)))), ((a 0), f_x a), ((a 2), f_book a)] s.heap := hP0
  have hl : lv_has ls 4 [(0, .ref (a 0)), (1, .int p0), (2, .ref h0)] := hl
  refine lv_aload_n hx hb dL_lineOf_0 rfl (lv_at hl 2 rfl) ?_
  refine lv_iconst (v := 0) hx hb dL_lineOf_1 (by decide) ?_
  refine lv_aload_n hx hb dL_lineOf_2 rfl (lv_at hl 0 rfl) ?_
  refine lv_iload_n hx hb dL_lineOf_3 rfl (lv_at hl 1 rfl) ?_
  have hPc : va_P D vwCl [((a 0), f_x a), ((a 2), f_book a)] _ := hP.sub (ws' := [((a 0), f_x a), ((a 2), f_book a)]) [1, 2] rfl
  have hDc : va_D (fun q => z0 ≤ q) [((a 0), f_x a), ((a 2), f_book a)] := (hD.to hAz).pick (ws' := [((a 0), f_x a), ((a 2), f_book a)]) [1, 2] (by decide) rfl
  have hFc := AnA (ws := [(h0, .inl (g 1, 1, .inr (.inl (fun _ => 0)))), ((a 0), f_x a), ((a 2), f_book a)]) hS.1
  refine vx_calli (vx_runV (As := [.int p0]) (rest := [.int 0, .ref h0]) ⟨hx, hb, hml, hown, ht⟩ (k_X11_lineOf l hfl D g z0 _ a p0) (cwV 1 ht (gV w_648 w_650 w_651 w_31 w_649) rfl rfl rfl (by decide +kernel) (le2 rfl rfl)) ⟨PP.blind, va_recv hK.1 hP (ci := 17) (q0 := 1) rfl rfl, PP.mk' hK hZ hz hAz hS hPc hDc⟩ rfl rfl hl.1 rfl (lv_room (Nat.le_of_ble_eq_true rfl)) dL_lineOf_4 (le2 rfl rfl)) hS (fun q _ h => hFc q h) hFc (fun q _ h => hFc q h) (fun E ce q9 u t H locs ht1 hvm hw hB hz1 hk1 hS hcell hv9 hcl => ?_) (fun r u t H locs ht1 hvm hw hB hz1 hk1 hS => ?_)
  · have hP := ro1 hP hk1
    obtain ⟨rfl, hB⟩ := hB
    refine vx_catch hown [] ⟨0, 9, 12, 26⟩ [] (htab.trans rfl) (fun _ h9 => absurd h9 List.not_mem_nil) (by decide) (by decide) (ht _ w_534) (hK.2.2.use w_535) hcell hv9 hcl ?_
    refine W.eq (g2 := F0 m 12 ls [.ref q9]) rfl ?_
    refine lv_astore_n (lv' := [(3, .ref q9), (0, .ref (a 0)), (1, .int p0), (2, .ref h0)]) hx hb dL_lineOf_12 rfl hl (by decide) rfl (fun ls hl => ?_)
    refine lv_iconst (v := 1) hx hb dL_lineOf_13 (by decide) ?_
    have hP9 := hP.sub (ws' := [(h0, .inl (g 1, 1, .inr (.inl (fun _ => 0))))]) [0] rfl
    have hD9 := hD.sub (ws' := [(h0, .inl (g 1, 1, .inr (.inl (fun _ => 0))))]) [0] (by decide) rfl
    refine W.widen (k := 1) (n := 6) (Nat.le_of_ble_eq_true rfl) (Nat.le_of_ble_eq_true rfl) ?_
    exact W.iret (v := 1) hx hb hr (fun t ht9 hW9 => ⟨⟨1, (), rfl, ⟨rfl, trivial⟩, ⟨(by rw [ht9]; exact hP9), hD9⟩⟩, hS.F ht9⟩) hS.2.2 dL_lineOf_14 hlocks
  · exact hw.elim
set_option maxHeartbeats 4000000 in
set_option maxRecDepth 100000 in
theorem k_L_make (l : Launch) (hfl : l.stackTraces = false) (D : va_G) (g : Nat → ClassId) (z0 sz : Nat) (a : Nat → Nat) (p0 : Int32) (h0 : Nat) : Met l yL_make (.codeWith yL_make cL_make 4 (some .int) [(0, 9, 12, 26), (0, 9, 15, 24), (0, 9, 18, 86), (0, 9, 21, 15)] :: TG) (rmk 9 1 6 148) (va_Pc [.ref (a 0), .int p0, .ref h0] (PP D g z0 sz [(h0, .inl (g 1, 1, .inr (.inl (fun _ => 0)))), ((a 0), f_x a), ((a 2), f_book a)])) (va_Qi (fun (r : Int32) (u : Unit) => (r = 1) ∧ True) (fun (u : Unit) (t : State) => va_P D vwCl [(h0, .inl (g 1, 1, .inr (.inl (fun _ => 0))))] t.heap ∧ va_D (va_A [(h0, .inl (g 1, 1, .inr (.inl (fun _ => 0)))), ((a 0), f_x a), ((a 2), f_book a)] sz) [(h0, .inl (g 1, 1, .inr (.inl (fun _ => 0))))]) (va_A [(h0, .inl (g 1, 1, .inr (.inl (fun _ => 0)))), ((a 0), f_x a), ((a 2), f_book a)] sz)) 1 6 (va_A [(h0, .inl (g 1, 1, .inr (.inl (fun _ => 0)))), ((a 0), f_x a), ((a 2), f_book a)] sz) := by
  refine metW0 (cc := cL_make) (n := 4) (hh := [(0, 9, 12, 26), (0, 9, 15, 24), (0, 9, 18, 86), (0, 9, 21, 15)]) (by decide) (Nat.le_of_ble_eq_true rfl) ?_
  intro p e s m args below meth c hx hb hr hml htab hown ht hlocks hnm hP0 hD0 hK hZ hsz hz ls hl
  subst hsz
  have hA : ∀ q : Nat, s.heap.size ≤ q → va_A [(h0, .inl (g 1, 1, .inr (.inl (fun _ => 0)))), ((a 0), f_x a), ((a 2), f_book a)] s.heap.size q := Anw
  have hAz : ∀ q, va_A [(h0, .inl (g 1, 1, .inr (.inl (fun _ => 0)))), ((a 0), f_x a), ((a 2), f_book a)] s.heap.size q → z0 ≤ q := Awz hz hD0
  have hS : va_S (va_A [(h0, .inl (g 1, 1, .inr (.inl (fun _ => 0)))), ((a 0), f_x a), ((a 2), f_book a)] s.heap.size) s.heap s.heap [] := va_S.rf
  have hD : va_D (va_A [(h0, .inl (g 1, 1, .inr (.inl (fun _ => 0)))), ((a 0), f_x a), ((a 2), f_book a)] s.heap.size) [(h0, .inl (g 1, 1, .inr (.inl (fun _ => 0)))), ((a 0), f_x a), ((a 2), f_book a)] := hD0.self
  have hP : va_P D vwCl [(h0, .inl (g 1, 1, .inr (.inl (fun _ => 0)))), ((a 0), f_x a), ((a 2), f_book a)] s.heap := hP0
  have hl : lv_has ls 4 [(0, .ref (a 0)), (1, .int p0), (2, .ref h0)] := hl
  refine lv_aload_n hx hb dL_make_0 rfl (lv_at hl 2 rfl) ?_
  refine lv_iconst (v := 0) hx hb dL_make_1 (by decide) ?_
  refine lv_aload_n hx hb dL_make_2 rfl (lv_at hl 0 rfl) ?_
  refine lv_iload_n hx hb dL_make_3 rfl (lv_at hl 1 rfl) ?_
  have hPc : va_P D vwCl [((a 0), f_x a), ((a 2), f_book a)] _ := hP.sub (ws' := [((a 0), f_x a), ((a 2), f_book a)]) [1, 2] rfl
  have hDc : va_D (fun q => z0 ≤ q) [((a 0), f_x a), ((a 2), f_book a)] := (hD.to hAz).pick (ws' := [((a 0), f_x a), ((a 2), f_book a)]) [1, 2] (by decide) rfl
  have hFc := AnA (ws := [(h0, .inl (g 1, 1, .inr (.inl (fun _ => 0)))), ((a 0), f_x a), ((a 2), f_book a)]) hS.1
  refine vx_calli (vx_runV (As := [.int p0]) (rest := [.int 0, .ref h0]) ⟨hx, hb, hml, hown, ht⟩ (k_X11_make l hfl D g z0 _ a p0) (cwV 1 ht (gV w_652 w_654 w_655 w_31 w_653) rfl rfl rfl (by decide +kernel) (le2 rfl rfl)) ⟨PP.blind, va_recv hK.1 hP (ci := 17) (q0 := 1) rfl rfl, PP.mk' hK hZ hz hAz hS hPc hDc⟩ rfl rfl hl.1 rfl (lv_room (Nat.le_of_ble_eq_true rfl)) dL_make_4 (le2 rfl rfl)) hS (fun q _ h => hFc q h) hFc (fun q _ h => hFc q h) (fun E ce q9 u t H locs ht1 hvm hw hB hz1 hk1 hS hcell hv9 hcl => ?_) (fun r u t H locs ht1 hvm hw hB hz1 hk1 hS => ?_)
  · have hP := ro1 hP hk1
    obtain ⟨rfl, hB⟩ := hB
    refine vx_catch hown [] ⟨0, 9, 12, 26⟩ [⟨0, 9, 15, 24⟩, ⟨0, 9, 18, 86⟩, ⟨0, 9, 21, 15⟩] (htab.trans rfl) (fun _ h9 => absurd h9 List.not_mem_nil) (by decide) (by decide) (ht _ w_534) (hK.2.2.use w_535) hcell hv9 hcl ?_
    refine W.eq (g2 := F0 m 12 ls [.ref q9]) rfl ?_
    refine lv_astore_n (lv' := [(3, .ref q9), (0, .ref (a 0)), (1, .int p0), (2, .ref h0)]) hx hb dL_make_12 rfl hl (by decide) rfl (fun ls hl => ?_)
    refine lv_iconst (v := 1) hx hb dL_make_13 (by decide) ?_
    have hP9 := hP.sub (ws' := [(h0, .inl (g 1, 1, .inr (.inl (fun _ => 0))))]) [0] rfl
    have hD9 := hD.sub (ws' := [(h0, .inl (g 1, 1, .inr (.inl (fun _ => 0))))]) [0] (by decide) rfl
    refine W.widen (k := 1) (n := 6) (Nat.le_of_ble_eq_true rfl) (Nat.le_of_ble_eq_true rfl) ?_
    exact W.iret (v := 1) hx hb hr (fun t ht9 hW9 => ⟨⟨1, (), rfl, ⟨rfl, trivial⟩, ⟨(by rw [ht9]; exact hP9), hD9⟩⟩, hS.F ht9⟩) hS.2.2 dL_make_14 hlocks
  · exact hw.elim
set_option maxHeartbeats 4000000 in
set_option maxRecDepth 100000 in
theorem k_L_march (l : Launch) (hfl : l.stackTraces = false) (D : va_G) (g : Nat → ClassId) (z0 sz : Nat) (a : Nat → Nat) (p0 : Int32) (h0 : Nat) (hc_p0 : isC p0) : Met l yL_march (.codeWith yL_march cL_march 4 (some .int) [(0, 9, 12, 24), (0, 9, 15, 15)] :: TG) (rmk 7 1 6 102) (va_Pc [.ref (a 0), .int p0, .ref h0] (PP D g z0 sz [(h0, .inl (g 1, 1, .inr (.inl (fun _ => 0)))), ((a 0), f_x a), ((a 9), f_memory a), ((a 59), .inl (g 2, 24, .inl (fun _ => 0)))])) (va_Qi (fun (r : Int32) (u : Int64) => ((r = 1) ∧ (u = 0) ∧ ((¬ p0 = 94) ∧ (¬ p0 = 118) ∧ (¬ p0 = 48) ∧ (¬ p0 = 49) ∧ (¬ p0 = 122) ∧ (¬ p0 = 111))) ∨ ((r = 0) ∧ (u = 1) ∧ ((p0 = 94) ∨ ((¬ p0 = 94) ∧ (p0 = 118)) ∨ ((¬ p0 = 94) ∧ (¬ p0 = 118) ∧ (p0 = 48)) ∨ ((¬ p0 = 94) ∧ (¬ p0 = 118) ∧ (¬ p0 = 48) ∧ (p0 = 49)) ∨ ((¬ p0 = 94) ∧ (¬ p0 = 118) ∧ (¬ p0 = 48) ∧ (¬ p0 = 49) ∧ (p0 = 122)) ∨ ((¬ p0 = 94) ∧ (¬ p0 = 118) ∧ (¬ p0 = 48) ∧ (¬ p0 = 49) ∧ (¬ p0 = 122) ∧ (p0 = 111))))) (fun (u : Int64) (t : State) => va_P D vwCl [(h0, .inl (g 1, 1, .inr (.inl (fun _ => u))))] t.heap ∧ va_D (va_A [(h0, .inl (g 1, 1, .inr (.inl (fun _ => 0)))), ((a 0), f_x a), ((a 9), f_memory a), ((a 59), .inl (g 2, 24, .inl (fun _ => 0)))] sz) [(h0, .inl (g 1, 1, .inr (.inl (fun _ => u))))]) (va_A [(h0, .inl (g 1, 1, .inr (.inl (fun _ => 0)))), ((a 0), f_x a), ((a 9), f_memory a), ((a 59), .inl (g 2, 24, .inl (fun _ => 0)))] sz)) 1 6 (va_A [(h0, .inl (g 1, 1, .inr (.inl (fun _ => 0)))), ((a 0), f_x a), ((a 9), f_memory a), ((a 59), .inl (g 2, 24, .inl (fun _ => 0)))] sz) := by
  refine metW0 (cc := cL_march) (n := 4) (hh := [(0, 9, 12, 24), (0, 9, 15, 15)]) (by decide) (Nat.le_of_ble_eq_true rfl) ?_
  intro p e s m args below meth c hx hb hr hml htab hown ht hlocks hnm hP0 hD0 hK hZ hsz hz ls hl
  subst hsz
  have hA : ∀ q : Nat, s.heap.size ≤ q → va_A [(h0, .inl (g 1, 1, .inr (.inl (fun _ => 0)))), ((a 0), f_x a), ((a 9), f_memory a), ((a 59), .inl (g 2, 24, .inl (fun _ => 0)))] s.heap.size q := Anw
  have hAz : ∀ q, va_A [(h0, .inl (g 1, 1, .inr (.inl (fun _ => 0)))), ((a 0), f_x a), ((a 9), f_memory a), ((a 59), .inl (g 2, 24, .inl (fun _ => 0)))] s.heap.size q → z0 ≤ q := Awz hz hD0
  have hS : va_S (va_A [(h0, .inl (g 1, 1, .inr (.inl (fun _ => 0)))), ((a 0), f_x a), ((a 9), f_memory a), ((a 59), .inl (g 2, 24, .inl (fun _ => 0)))] s.heap.size) s.heap s.heap [] := va_S.rf
  have hD : va_D (va_A [(h0, .inl (g 1, 1, .inr (.inl (fun _ => 0)))), ((a 0), f_x a), ((a 9), f_memory a), ((a 59), .inl (g 2, 24, .inl (fun _ => 0)))] s.heap.size) [(h0, .inl (g 1, 1, .inr (.inl (fun _ => 0)))), ((a 0), f_x a), ((a 9), f_memory a), ((a 59), .inl (g 2, 24, .inl (fun _ => 0)))] := hD0.self
  have hP : va_P D vwCl [(h0, .inl (g 1, 1, .inr (.inl (fun _ => 0)))), ((a 0), f_x a), ((a 9), f_memory a), ((a 59), .inl (g 2, 24, .inl (fun _ => 0)))] s.heap := hP0
  have hl : lv_has ls 4 [(0, .ref (a 0)), (1, .int p0), (2, .ref h0)] := hl
  refine lv_aload_n hx hb dL_march_0 rfl (lv_at hl 2 rfl) ?_
  refine lv_iconst (v := 0) hx hb dL_march_1 (by decide) ?_
  refine lv_aload_n hx hb dL_march_2 rfl (lv_at hl 0 rfl) ?_
  refine lv_iload_n hx hb dL_march_3 rfl (lv_at hl 1 rfl) ?_
  have hPc : va_P D vwCl [((a 0), f_x a), ((a 9), f_memory a), ((a 59), .inl (g 2, 24, .inl (fun _ => 0)))] _ := hP.sub (ws' := [((a 0), f_x a), ((a 9), f_memory a), ((a 59), .inl (g 2, 24, .inl (fun _ => 0)))]) [1, 2, 3] rfl
  have hDc : va_D (fun q => z0 ≤ q) [((a 0), f_x a), ((a 9), f_memory a), ((a 59), .inl (g 2, 24, .inl (fun _ => 0)))] := (hD.to hAz).pick (ws' := [((a 0), f_x a), ((a 9), f_memory a), ((a 59), .inl (g 2, 24, .inl (fun _ => 0)))]) [1, 2, 3] (by decide) rfl
  have hFc := va_free (wc := [((a 0), f_x a), ((a 9), f_memory a), ((a 59), .inl (g 2, 24, .inl (fun _ => 0)))]) hD hS hA [1, 2, 3] rfl
  refine vx_calli (vx_runV (As := [.int p0]) (rest := [.int 0, .ref h0]) ⟨hx, hb, hml, hown, ht⟩ (k_X11_march l hfl D g z0 _ a p0 hc_p0) (cwV 1 ht (gV w_656 w_658 w_659 w_31 w_657) rfl rfl rfl (by decide +kernel) (le2 rfl rfl)) ⟨PP.blind, va_recv hK.1 hP (ci := 17) (q0 := 1) rfl rfl, PP.mk' hK hZ hz hAz hS hPc hDc⟩ rfl rfl hl.1 rfl (lv_room (Nat.le_of_ble_eq_true rfl)) dL_march_4 (le2 rfl rfl)) hS (fun q _ h => hFc q h) hFc (fun q _ h => hFc q h) (fun E ce q9 u t H locs ht1 hvm hw hB hz1 hk1 hS hcell hv9 hcl => ?_) (fun r u t H locs ht1 hvm hw hB hz1 hk1 hS => ?_)
  · obtain ⟨hP, hD⟩ := va_join (wr := [(h0, .inl (g 1, 1, .inr (.inl (fun _ => 0))))]) (w1 := []) hP hD [1, 2, 3] [0] rfl rfl (by decide) (by decide) hk1 hFc nil_P nil_D
    have hP : va_P D vwCl [(h0, .inl (g 1, 1, .inr (.inl (fun _ => 0))))] H := hP
    have hD : va_D (va_A [(h0, .inl (g 1, 1, .inr (.inl (fun _ => 0)))), ((a 0), f_x a), ((a 9), f_memory a), ((a 59), .inl (g 2, 24, .inl (fun _ => 0)))] s.heap.size) [(h0, .inl (g 1, 1, .inr (.inl (fun _ => 0))))] := hD
    obtain ⟨rfl, hB⟩ := hB
    obtain ⟨c_1, c_2, c_3, c_4, c_5, c_6⟩ := hB
    refine vx_catch hown [] ⟨0, 9, 12, 24⟩ [⟨0, 9, 15, 15⟩] (htab.trans rfl) (fun _ h9 => absurd h9 List.not_mem_nil) (by decide) (by decide) (ht _ w_540) (hK.2.2.use w_541) hcell hv9 hcl ?_
    refine W.eq (g2 := F0 m 12 ls [.ref q9]) rfl ?_
    refine lv_astore_n (lv' := [(3, .ref q9), (0, .ref (a 0)), (1, .int p0), (2, .ref h0)]) hx hb dL_march_12 rfl hl (by decide) rfl (fun ls hl => ?_)
    refine lv_iconst (v := 1) hx hb dL_march_13 (by decide) ?_
    have hP9 := hP.sub (ws' := [(h0, .inl (g 1, 1, .inr (.inl (fun _ => 0))))]) [0] rfl
    have hD9 := hD.sub (ws' := [(h0, .inl (g 1, 1, .inr (.inl (fun _ => 0))))]) [0] (by decide) rfl
    refine W.widen (k := 1) (n := 6) (Nat.le_of_ble_eq_true rfl) (Nat.le_of_ble_eq_true rfl) ?_
    exact W.iret (v := 1) hx hb hr (fun t ht9 hW9 => ⟨⟨1, 0, rfl, (Or.inl ⟨rfl, rfl, ⟨c_1, c_2, c_3, c_4, c_5, c_6⟩⟩), ⟨(by rw [ht9]; exact hP9), hD9⟩⟩, hS.F ht9⟩) hS.2.2 dL_march_14 hlocks
  · obtain ⟨rfl, hw⟩ := hw
    rcases hw with hw | hw | hw | hw | hw | hw
    · have c_7 := hw
      obtain ⟨hP1, hD1⟩ := hB
      rw [ht1] at hP1
      obtain ⟨hP, hD⟩ := va_join (wr := [(h0, .inl (g 1, 1, .inr (.inl (fun _ => 0))))]) (w1 := []) hP hD [1, 2, 3] [0] rfl rfl (by decide) (by decide) hk1 hFc hP1 hD1
      have hP : va_P D vwCl [(h0, .inl (g 1, 1, .inr (.inl (fun _ => 0))))] H := hP
      have hD : va_D (va_A [(h0, .inl (g 1, 1, .inr (.inl (fun _ => 0)))), ((a 0), f_x a), ((a 9), f_memory a), ((a 59), .inl (g 2, 24, .inl (fun _ => 0)))] s.heap.size) [(h0, .inl (g 1, 1, .inr (.inl (fun _ => 0))))] := hD
      refine lv_i2l (v := 1) hx hb dL_march_7 (by decide) ?_
      refine va_last hx hb hK.1 hP hD hS 0 1 rfl rfl (by unfold vp_in; decide) dL_march_8 (fun H locs hP hD hS => ?_)
      have hP : va_P D vwCl [(h0, .inl (g 1, 1, .inr (.inl (vp_updL (fun _ => 0) (0 : Int32).toNatClampNeg 1))))] H := hP
      have hD : va_D (va_A [(h0, .inl (g 1, 1, .inr (.inl (fun _ => 0)))), ((a 0), f_x a), ((a 9), f_memory a), ((a 59), .inl (g 2, 24, .inl (fun _ => 0)))] s.heap.size) [(h0, .inl (g 1, 1, .inr (.inl (vp_updL (fun _ => 0) (0 : Int32).toNatClampNeg 1))))] := hD
      have hP := one_up (v := 1) hP 0 rfl rfl
      have hD := va_D.set (p := 0) (e := .inl (g 1, 1, .inr (.inl (fun _ => 1)))) hD rfl
      have hP : va_P D vwCl [(h0, .inl (g 1, 1, .inr (.inl (fun _ => 1))))] H := hP
      have hD : va_D (va_A [(h0, .inl (g 1, 1, .inr (.inl (fun _ => 0)))), ((a 0), f_x a), ((a 9), f_memory a), ((a 59), .inl (g 2, 24, .inl (fun _ => 0)))] s.heap.size) [(h0, .inl (g 1, 1, .inr (.inl (fun _ => 1))))] := hD
      refine lv_goto (tgt := 18) hx hb dL_march_9 (by decide) ?_
      refine lv_iconst (v := 0) hx hb dL_march_18 (by decide) ?_
      have hP9 := hP.sub (ws' := [(h0, .inl (g 1, 1, .inr (.inl (fun _ => 1))))]) [0] rfl
      have hD9 := hD.sub (ws' := [(h0, .inl (g 1, 1, .inr (.inl (fun _ => 1))))]) [0] (by decide) rfl
      refine W.widen (k := 1) (n := 6) (Nat.le_of_ble_eq_true rfl) (Nat.le_of_ble_eq_true rfl) ?_
      exact W.iret (v := 0) hx hb hr (fun t ht9 hW9 => ⟨⟨0, 1, rfl, (Or.inr ⟨rfl, rfl, (Or.inl c_7)⟩), ⟨(by rw [ht9]; exact hP9), hD9⟩⟩, hS.F ht9⟩) hS.2.2 dL_march_19 hlocks
    · obtain ⟨c_8, c_9⟩ := hw
      obtain ⟨hP1, hD1⟩ := hB
      rw [ht1] at hP1
      obtain ⟨hP, hD⟩ := va_join (wr := [(h0, .inl (g 1, 1, .inr (.inl (fun _ => 0))))]) (w1 := []) hP hD [1, 2, 3] [0] rfl rfl (by decide) (by decide) hk1 hFc hP1 hD1
      have hP : va_P D vwCl [(h0, .inl (g 1, 1, .inr (.inl (fun _ => 0))))] H := hP
      have hD : va_D (va_A [(h0, .inl (g 1, 1, .inr (.inl (fun _ => 0)))), ((a 0), f_x a), ((a 9), f_memory a), ((a 59), .inl (g 2, 24, .inl (fun _ => 0)))] s.heap.size) [(h0, .inl (g 1, 1, .inr (.inl (fun _ => 0))))] := hD
      refine lv_i2l (v := 1) hx hb dL_march_7 (by decide) ?_
      refine va_last hx hb hK.1 hP hD hS 0 1 rfl rfl (by unfold vp_in; decide) dL_march_8 (fun H locs hP hD hS => ?_)
      have hP : va_P D vwCl [(h0, .inl (g 1, 1, .inr (.inl (vp_updL (fun _ => 0) (0 : Int32).toNatClampNeg 1))))] H := hP
      have hD : va_D (va_A [(h0, .inl (g 1, 1, .inr (.inl (fun _ => 0)))), ((a 0), f_x a), ((a 9), f_memory a), ((a 59), .inl (g 2, 24, .inl (fun _ => 0)))] s.heap.size) [(h0, .inl (g 1, 1, .inr (.inl (vp_updL (fun _ => 0) (0 : Int32).toNatClampNeg 1))))] := hD
      have hP := one_up (v := 1) hP 0 rfl rfl
      have hD := va_D.set (p := 0) (e := .inl (g 1, 1, .inr (.inl (fun _ => 1)))) hD rfl
      have hP : va_P D vwCl [(h0, .inl (g 1, 1, .inr (.inl (fun _ => 1))))] H := hP
      have hD : va_D (va_A [(h0, .inl (g 1, 1, .inr (.inl (fun _ => 0)))), ((a 0), f_x a), ((a 9), f_memory a), ((a 59), .inl (g 2, 24, .inl (fun _ => 0)))] s.heap.size) [(h0, .inl (g 1, 1, .inr (.inl (fun _ => 1))))] := hD
      refine lv_goto (tgt := 18) hx hb dL_march_9 (by decide) ?_
      refine lv_iconst (v := 0) hx hb dL_march_18 (by decide) ?_
      have hP9 := hP.sub (ws' := [(h0, .inl (g 1, 1, .inr (.inl (fun _ => 1))))]) [0] rfl
      have hD9 := hD.sub (ws' := [(h0, .inl (g 1, 1, .inr (.inl (fun _ => 1))))]) [0] (by decide) rfl
      refine W.widen (k := 1) (n := 6) (Nat.le_of_ble_eq_true rfl) (Nat.le_of_ble_eq_true rfl) ?_
      exact W.iret (v := 0) hx hb hr (fun t ht9 hW9 => ⟨⟨0, 1, rfl, (Or.inr ⟨rfl, rfl, (Or.inr (Or.inl ⟨c_8, c_9⟩))⟩), ⟨(by rw [ht9]; exact hP9), hD9⟩⟩, hS.F ht9⟩) hS.2.2 dL_march_19 hlocks
    · obtain ⟨c_10, c_11, c_12⟩ := hw
      obtain ⟨hP1, hD1⟩ := hB
      rw [ht1] at hP1
      obtain ⟨hP, hD⟩ := va_join (wr := [(h0, .inl (g 1, 1, .inr (.inl (fun _ => 0))))]) (w1 := []) hP hD [1, 2, 3] [0] rfl rfl (by decide) (by decide) hk1 hFc hP1 hD1
      have hP : va_P D vwCl [(h0, .inl (g 1, 1, .inr (.inl (fun _ => 0))))] H := hP
      have hD : va_D (va_A [(h0, .inl (g 1, 1, .inr (.inl (fun _ => 0)))), ((a 0), f_x a), ((a 9), f_memory a), ((a 59), .inl (g 2, 24, .inl (fun _ => 0)))] s.heap.size) [(h0, .inl (g 1, 1, .inr (.inl (fun _ => 0))))] := hD
      refine lv_i2l (v := 1) hx hb dL_march_7 (by decide) ?_
      refine va_last hx hb hK.1 hP hD hS 0 1 rfl rfl (by unfold vp_in; decide) dL_march_8 (fun H locs hP hD hS => ?_)
      have hP : va_P D vwCl [(h0, .inl (g 1, 1, .inr (.inl (vp_updL (fun _ => 0) (0 : Int32).toNatClampNeg 1))))] H := hP
      have hD : va_D (va_A [(h0, .inl (g 1, 1, .inr (.inl (fun _ => 0)))), ((a 0), f_x a), ((a 9), f_memory a), ((a 59), .inl (g 2, 24, .inl (fun _ => 0)))] s.heap.size) [(h0, .inl (g 1, 1, .inr (.inl (vp_updL (fun _ => 0) (0 : Int32).toNatClampNeg 1))))] := hD
      have hP := one_up (v := 1) hP 0 rfl rfl
      have hD := va_D.set (p := 0) (e := .inl (g 1, 1, .inr (.inl (fun _ => 1)))) hD rfl
      have hP : va_P D vwCl [(h0, .inl (g 1, 1, .inr (.inl (fun _ => 1))))] H := hP
      have hD : va_D (va_A [(h0, .inl (g 1, 1, .inr (.inl (fun _ => 0)))), ((a 0), f_x a), ((a 9), f_memory a), ((a 59), .inl (g 2, 24, .inl (fun _ => 0)))] s.heap.size) [(h0, .inl (g 1, 1, .inr (.inl (fun _ => 1))))] := hD
      refine lv_goto (tgt := 18) hx hb dL_march_9 (by decide) ?_
      refine lv_iconst (v := 0) hx hb dL_march_18 (by decide) ?_
      have hP9 := hP.sub (ws' := [(h0, .inl (g 1, 1, .inr (.inl (fun _ => 1))))]) [0] rfl
      have hD9 := hD.sub (ws' := [(h0, .inl (g 1, 1, .inr (.inl (fun _ => 1))))]) [0] (by decide) rfl
      refine W.widen (k := 1) (n := 6) (Nat.le_of_ble_eq_true rfl) (Nat.le_of_ble_eq_true rfl) ?_
      exact W.iret (v := 0) hx hb hr (fun t ht9 hW9 => ⟨⟨0, 1, rfl, (Or.inr ⟨rfl, rfl, (Or.inr (Or.inr (Or.inl ⟨c_10, c_11, c_12⟩)))⟩), ⟨(by rw [ht9]; exact hP9), hD9⟩⟩, hS.F ht9⟩) hS.2.2 dL_march_19 hlocks
    · obtain ⟨c_13, c_14, c_15, c_16⟩ := hw
      obtain ⟨hP1, hD1⟩ := hB
      rw [ht1] at hP1
      obtain ⟨hP, hD⟩ := va_join (wr := [(h0, .inl (g 1, 1, .inr (.inl (fun _ => 0))))]) (w1 := []) hP hD [1, 2, 3] [0] rfl rfl (by decide) (by decide) hk1 hFc hP1 hD1
      have hP : va_P D vwCl [(h0, .inl (g 1, 1, .inr (.inl (fun _ => 0))))] H := hP
      have hD : va_D (va_A [(h0, .inl (g 1, 1, .inr (.inl (fun _ => 0)))), ((a 0), f_x a), ((a 9), f_memory a), ((a 59), .inl (g 2, 24, .inl (fun _ => 0)))] s.heap.size) [(h0, .inl (g 1, 1, .inr (.inl (fun _ => 0))))] := hD
      refine lv_i2l (v := 1) hx hb dL_march_7 (by decide) ?_
      refine va_last hx hb hK.1 hP hD hS 0 1 rfl rfl (by unfold vp_in; decide) dL_march_8 (fun H locs hP hD hS => ?_)
      have hP : va_P D vwCl [(h0, .inl (g 1, 1, .inr (.inl (vp_updL (fun _ => 0) (0 : Int32).toNatClampNeg 1))))] H := hP
      have hD : va_D (va_A [(h0, .inl (g 1, 1, .inr (.inl (fun _ => 0)))), ((a 0), f_x a), ((a 9), f_memory a), ((a 59), .inl (g 2, 24, .inl (fun _ => 0)))] s.heap.size) [(h0, .inl (g 1, 1, .inr (.inl (vp_updL (fun _ => 0) (0 : Int32).toNatClampNeg 1))))] := hD
      have hP := one_up (v := 1) hP 0 rfl rfl
      have hD := va_D.set (p := 0) (e := .inl (g 1, 1, .inr (.inl (fun _ => 1)))) hD rfl
      have hP : va_P D vwCl [(h0, .inl (g 1, 1, .inr (.inl (fun _ => 1))))] H := hP
      have hD : va_D (va_A [(h0, .inl (g 1, 1, .inr (.inl (fun _ => 0)))), ((a 0), f_x a), ((a 9), f_memory a), ((a 59), .inl (g 2, 24, .inl (fun _ => 0)))] s.heap.size) [(h0, .inl (g 1, 1, .inr (.inl (fun _ => 1))))] := hD
      refine lv_goto (tgt := 18) hx hb dL_march_9 (by decide) ?_
      refine lv_iconst (v := 0) hx hb dL_march_18 (by decide) ?_
      have hP9 := hP.sub (ws' := [(h0, .inl (g 1, 1, .inr (.inl (fun _ => 1))))]) [0] rfl
      have hD9 := hD.sub (ws' := [(h0, .inl (g 1, 1, .inr (.inl (fun _ => 1))))]) [0] (by decide) rfl
      refine W.widen (k := 1) (n := 6) (Nat.le_of_ble_eq_true rfl) (Nat.le_of_ble_eq_true rfl) ?_
      exact W.iret (v := 0) hx hb hr (fun t ht9 hW9 => ⟨⟨0, 1, rfl, (Or.inr ⟨rfl, rfl, (Or.inr (Or.inr (Or.inr (Or.inl ⟨c_13, c_14, c_15, c_16⟩))))⟩), ⟨(by rw [ht9]; exact hP9), hD9⟩⟩, hS.F ht9⟩) hS.2.2 dL_march_19 hlocks
    · obtain ⟨c_17, c_18, c_19, c_20, c_21⟩ := hw
      obtain ⟨hP1, hD1⟩ := hB
      rw [ht1] at hP1
      obtain ⟨hP, hD⟩ := va_join (wr := [(h0, .inl (g 1, 1, .inr (.inl (fun _ => 0))))]) (w1 := []) hP hD [1, 2, 3] [0] rfl rfl (by decide) (by decide) hk1 hFc hP1 hD1
      have hP : va_P D vwCl [(h0, .inl (g 1, 1, .inr (.inl (fun _ => 0))))] H := hP
      have hD : va_D (va_A [(h0, .inl (g 1, 1, .inr (.inl (fun _ => 0)))), ((a 0), f_x a), ((a 9), f_memory a), ((a 59), .inl (g 2, 24, .inl (fun _ => 0)))] s.heap.size) [(h0, .inl (g 1, 1, .inr (.inl (fun _ => 0))))] := hD
      refine lv_i2l (v := 1) hx hb dL_march_7 (by decide) ?_
      refine va_last hx hb hK.1 hP hD hS 0 1 rfl rfl (by unfold vp_in; decide) dL_march_8 (fun H locs hP hD hS => ?_)
      have hP : va_P D vwCl [(h0, .inl (g 1, 1, .inr (.inl (vp_updL (fun _ => 0) (0 : Int32).toNatClampNeg 1))))] H := hP
      have hD : va_D (va_A [(h0, .inl (g 1, 1, .inr (.inl (fun _ => 0)))), ((a 0), f_x a), ((a 9), f_memory a), ((a 59), .inl (g 2, 24, .inl (fun _ => 0)))] s.heap.size) [(h0, .inl (g 1, 1, .inr (.inl (vp_updL (fun _ => 0) (0 : Int32).toNatClampNeg 1))))] := hD
      have hP := one_up (v := 1) hP 0 rfl rfl
      have hD := va_D.set (p := 0) (e := .inl (g 1, 1, .inr (.inl (fun _ => 1)))) hD rfl
      have hP : va_P D vwCl [(h0, .inl (g 1, 1, .inr (.inl (fun _ => 1))))] H := hP
      have hD : va_D (va_A [(h0, .inl (g 1, 1, .inr (.inl (fun _ => 0)))), ((a 0), f_x a), ((a 9), f_memory a), ((a 59), .inl (g 2, 24, .inl (fun _ => 0)))] s.heap.size) [(h0, .inl (g 1, 1, .inr (.inl (fun _ => 1))))] := hD
      refine lv_goto (tgt := 18) hx hb dL_march_9 (by decide) ?_
      refine lv_iconst (v := 0) hx hb dL_march_18 (by decide) ?_
      have hP9 := hP.sub (ws' := [(h0, .inl (g 1, 1, .inr (.inl (fun _ => 1))))]) [0] rfl
      have hD9 := hD.sub (ws' := [(h0, .inl (g 1, 1, .inr (.inl (fun _ => 1))))]) [0] (by decide) rfl
      refine W.widen (k := 1) (n := 6) (Nat.le_of_ble_eq_true rfl) (Nat.le_of_ble_eq_true rfl) ?_
      exact W.iret (v := 0) hx hb hr (fun t ht9 hW9 => ⟨⟨0, 1, rfl, (Or.inr ⟨rfl, rfl, (Or.inr (Or.inr (Or.inr (Or.inr (Or.inl ⟨c_17, c_18, c_19, c_20, c_21⟩)))))⟩), ⟨(by rw [ht9]; exact hP9), hD9⟩⟩, hS.F ht9⟩) hS.2.2 dL_march_19 hlocks
    · obtain ⟨c_22, c_23, c_24, c_25, c_26, c_27⟩ := hw
      obtain ⟨hP1, hD1⟩ := hB
      rw [ht1] at hP1
      obtain ⟨hP, hD⟩ := va_join (wr := [(h0, .inl (g 1, 1, .inr (.inl (fun _ => 0))))]) (w1 := []) hP hD [1, 2, 3] [0] rfl rfl (by decide) (by decide) hk1 hFc hP1 hD1
      have hP : va_P D vwCl [(h0, .inl (g 1, 1, .inr (.inl (fun _ => 0))))] H := hP
      have hD : va_D (va_A [(h0, .inl (g 1, 1, .inr (.inl (fun _ => 0)))), ((a 0), f_x a), ((a 9), f_memory a), ((a 59), .inl (g 2, 24, .inl (fun _ => 0)))] s.heap.size) [(h0, .inl (g 1, 1, .inr (.inl (fun _ => 0))))] := hD
      refine lv_i2l (v := 1) hx hb dL_march_7 (by decide) ?_
      refine va_last hx hb hK.1 hP hD hS 0 1 rfl rfl (by unfold vp_in; decide) dL_march_8 (fun H locs hP hD hS => ?_)
      have hP : va_P D vwCl [(h0, .inl (g 1, 1, .inr (.inl (vp_updL (fun _ => 0) (0 : Int32).toNatClampNeg 1))))] H := hP
      have hD : va_D (va_A [(h0, .inl (g 1, 1, .inr (.inl (fun _ => 0)))), ((a 0), f_x a), ((a 9), f_memory a), ((a 59), .inl (g 2, 24, .inl (fun _ => 0)))] s.heap.size) [(h0, .inl (g 1, 1, .inr (.inl (vp_updL (fun _ => 0) (0 : Int32).toNatClampNeg 1))))] := hD
      have hP := one_up (v := 1) hP 0 rfl rfl
      have hD := va_D.set (p := 0) (e := .inl (g 1, 1, .inr (.inl (fun _ => 1)))) hD rfl
      have hP : va_P D vwCl [(h0, .inl (g 1, 1, .inr (.inl (fun _ => 1))))] H := hP
      have hD : va_D (va_A [(h0, .inl (g 1, 1, .inr (.inl (fun _ => 0)))), ((a 0), f_x a), ((a 9), f_memory a), ((a 59), .inl (g 2, 24, .inl (fun _ => 0)))] s.heap.size) [(h0, .inl (g 1, 1, .inr (.inl (fun _ => 1))))] := hD
      refine lv_goto (tgt := 18) hx hb dL_march_9 (by decide) ?_
      refine lv_iconst (v := 0) hx hb dL_march_18 (by decide) ?_
      have hP9 := hP.sub (ws' := [(h0, .inl (g 1, 1, .inr (.inl (fun _ => 1))))]) [0] rfl
      have hD9 := hD.sub (ws' := [(h0, .inl (g 1, 1, .inr (.inl (fun _ => 1))))]) [0] (by decide) rfl
      refine W.widen (k := 1) (n := 6) (Nat.le_of_ble_eq_true rfl) (Nat.le_of_ble_eq_true rfl) ?_
      exact W.iret (v := 0) hx hb hr (fun t ht9 hW9 => ⟨⟨0, 1, rfl, (Or.inr ⟨rfl, rfl, (Or.inr (Or.inr (Or.inr (Or.inr (Or.inr ⟨c_22, c_23, c_24, c_25, c_26, c_27⟩)))))⟩), ⟨(by rw [ht9]; exact hP9), hD9⟩⟩, hS.F ht9⟩) hS.2.2 dL_march_19 hlocks
set_option maxHeartbeats 4000000 in
set_option maxRecDepth 100000 in
theorem k_L_marchCount (l : Launch) (hfl : l.stackTraces = false) (D : va_G) (g : Nat → ClassId) (z0 sz : Nat) (a : Nat → Nat) (p0 : Int32) (h0 : Nat) (hc_p0 : isC p0) : Met l yL_marchCount (.codeWith yL_marchCount cL_marchCount 4 (some .int) [(0, 9, 12, 24), (0, 9, 15, 13)] :: TG) (rmk 7 1 6 102) (va_Pc [.ref (a 0), .int p0, .ref h0] (PP D g z0 sz [(h0, .inl (g 1, 1, .inr (.inl (fun _ => 0)))), ((a 0), f_x a), ((a 9), f_memory a)])) (va_Qi (fun (r : Int32) (u : Unit) => ((r = 2) ∧ ((p0 = 115) ∨ ((¬ p0 = 115) ∧ (p0 = 116)) ∨ ((¬ p0 = 115) ∧ (¬ p0 = 116) ∧ (p0 = 99)) ∨ ((¬ p0 = 115) ∧ (¬ p0 = 116) ∧ (¬ p0 = 99) ∧ (p0 = 105)) ∨ ((¬ p0 = 115) ∧ (¬ p0 = 116) ∧ (¬ p0 = 99) ∧ (¬ p0 = 105) ∧ (p0 = 97)))) ∨ ((r = 1) ∧ ((¬ p0 = 115) ∧ (¬ p0 = 116) ∧ (¬ p0 = 99) ∧ (¬ p0 = 105) ∧ (¬ p0 = 97)))) (fun (u : Unit) (t : State) => va_P D vwCl [(h0, .inl (g 1, 1, .inr (.inl (fun _ => 0))))] t.heap ∧ va_D (va_A [(h0, .inl (g 1, 1, .inr (.inl (fun _ => 0)))), ((a 0), f_x a), ((a 9), f_memory a)] sz) [(h0, .inl (g 1, 1, .inr (.inl (fun _ => 0))))]) (va_A [(h0, .inl (g 1, 1, .inr (.inl (fun _ => 0)))), ((a 0), f_x a), ((a 9), f_memory a)] sz)) 1 6 (va_A [(h0, .inl (g 1, 1, .inr (.inl (fun _ => 0)))), ((a 0), f_x a), ((a 9), f_memory a)] sz) := by
  refine metW0 (cc := cL_marchCount) (n := 4) (hh := [(0, 9, 12, 24), (0, 9, 15, 13)]) (by decide) (Nat.le_of_ble_eq_true rfl) ?_
  intro p e s m args below meth c hx hb hr hml htab hown ht hlocks hnm hP0 hD0 hK hZ hsz hz ls hl
  subst hsz
  have hA : ∀ q : Nat, s.heap.size ≤ q → va_A [(h0, .inl (g 1, 1, .inr (.inl (fun _ => 0)))), ((a 0), f_x a), ((a 9), f_memory a)] s.heap.size q := Anw
  have hAz : ∀ q, va_A [(h0, .inl (g 1, 1, .inr (.inl (fun _ => 0)))), ((a 0), f_x a), ((a 9), f_memory a)] s.heap.size q → z0 ≤ q := Awz hz hD0
  have hS : va_S (va_A [(h0, .inl (g 1, 1, .inr (.inl (fun _ => 0)))), ((a 0), f_x a), ((a 9), f_memory a)] s.heap.size) s.heap s.heap [] := va_S.rf
  have hD : va_D (va_A [(h0, .inl (g 1, 1, .inr (.inl (fun _ => 0)))), ((a 0), f_x a), ((a 9), f_memory a)] s.heap.size) [(h0, .inl (g 1, 1, .inr (.inl (fun _ => 0)))), ((a 0), f_x a), ((a 9), f_memory a)] := hD0.self
  have hP : va_P D vwCl [(h0, .inl (g 1, 1, .inr (.inl (fun _ => 0)))), ((a 0), f_x a), ((a 9), f_memory a)] s.heap := hP0
  have hl : lv_has ls 4 [(0, .ref (a 0)), (1, .int p0), (2, .ref h0)] := hl
  refine lv_aload_n hx hb dL_marchCount_0 rfl (lv_at hl 2 rfl) ?_
  refine lv_iconst (v := 0) hx hb dL_marchCount_1 (by decide) ?_
  refine lv_aload_n hx hb dL_marchCount_2 rfl (lv_at hl 0 rfl) ?_
  refine lv_iload_n hx hb dL_marchCount_3 rfl (lv_at hl 1 rfl) ?_
  have hPc : va_P D vwCl [((a 0), f_x a), ((a 9), f_memory a)] _ := hP.sub (ws' := [((a 0), f_x a), ((a 9), f_memory a)]) [1, 2] rfl
  have hDc : va_D (fun q => z0 ≤ q) [((a 0), f_x a), ((a 9), f_memory a)] := (hD.to hAz).pick (ws' := [((a 0), f_x a), ((a 9), f_memory a)]) [1, 2] (by decide) rfl
  have hFc := va_free (wc := [((a 0), f_x a), ((a 9), f_memory a)]) hD hS hA [1, 2] rfl
  refine vx_calli (vx_runV (As := [.int p0]) (rest := [.int 0, .ref h0]) ⟨hx, hb, hml, hown, ht⟩ (k_X11_marchCount l hfl D g z0 _ a p0 hc_p0) (cwV 1 ht (gV w_660 w_662 w_663 w_31 w_661) rfl rfl rfl (by decide +kernel) (le2 rfl rfl)) ⟨PP.blind, va_recv hK.1 hP (ci := 17) (q0 := 1) rfl rfl, PP.mk' hK hZ hz hAz hS hPc hDc⟩ rfl rfl hl.1 rfl (lv_room (Nat.le_of_ble_eq_true rfl)) dL_marchCount_4 (le2 rfl rfl)) hS (fun q _ h => hFc q h) hFc (fun q _ h => hFc q h) (fun E ce q9 u t H locs ht1 hvm hw hB hz1 hk1 hS hcell hv9 hcl => ?_) (fun r u t H locs ht1 hvm hw hB hz1 hk1 hS => ?_)
  · obtain ⟨hP, hD⟩ := va_join (wr := [(h0, .inl (g 1, 1, .inr (.inl (fun _ => 0))))]) (w1 := []) hP hD [1, 2] [0] rfl rfl (by decide) (by decide) hk1 hFc nil_P nil_D
    have hP : va_P D vwCl [(h0, .inl (g 1, 1, .inr (.inl (fun _ => 0))))] H := hP
    have hD : va_D (va_A [(h0, .inl (g 1, 1, .inr (.inl (fun _ => 0)))), ((a 0), f_x a), ((a 9), f_memory a)] s.heap.size) [(h0, .inl (g 1, 1, .inr (.inl (fun _ => 0))))] := hD
    rcases hB with hB | hB
    · obtain ⟨rfl, hB⟩ := hB
      rcases hB with hB | hB | hB | hB | hB
      · have c_1 := hB
        refine vx_catch hown [⟨0, 9, 12, 24⟩] ⟨0, 9, 15, 13⟩ [] (htab.trans rfl) (List.forall_mem_cons.mpr ⟨Or.inr ⟨by decide, "java/lang/IllegalArgumentException", ht _ w_540, hK.2.2.2.2.1 _ (List.mem_of_getElem? (i := 12) rfl)⟩, (fun _ h9 => absurd h9 List.not_mem_nil)⟩) (by decide) (by decide) (ht _ w_554) (hK.2.2.use w_555) hcell hv9 hcl ?_
        refine W.eq (g2 := F0 m 15 ls [.ref q9]) rfl ?_
        refine lv_astore_n (lv' := [(3, .ref q9), (0, .ref (a 0)), (1, .int p0), (2, .ref h0)]) hx hb dL_marchCount_15 rfl hl (by decide) rfl (fun ls hl => ?_)
        refine lv_iconst (v := 2) hx hb dL_marchCount_16 (by decide) ?_
        have hP9 := hP.sub (ws' := [(h0, .inl (g 1, 1, .inr (.inl (fun _ => 0))))]) [0] rfl
        have hD9 := hD.sub (ws' := [(h0, .inl (g 1, 1, .inr (.inl (fun _ => 0))))]) [0] (by decide) rfl
        refine W.widen (k := 1) (n := 6) (Nat.le_of_ble_eq_true rfl) (Nat.le_of_ble_eq_true rfl) ?_
        exact W.iret (v := 2) hx hb hr (fun t ht9 hW9 => ⟨⟨2, (), rfl, (Or.inl ⟨rfl, (Or.inl c_1)⟩), ⟨(by rw [ht9]; exact hP9), hD9⟩⟩, hS.F ht9⟩) hS.2.2 dL_marchCount_17 hlocks
      · obtain ⟨c_2, c_3⟩ := hB
        refine vx_catch hown [⟨0, 9, 12, 24⟩] ⟨0, 9, 15, 13⟩ [] (htab.trans rfl) (List.forall_mem_cons.mpr ⟨Or.inr ⟨by decide, "java/lang/IllegalArgumentException", ht _ w_540, hK.2.2.2.2.1 _ (List.mem_of_getElem? (i := 12) rfl)⟩, (fun _ h9 => absurd h9 List.not_mem_nil)⟩) (by decide) (by decide) (ht _ w_554) (hK.2.2.use w_555) hcell hv9 hcl ?_
        refine W.eq (g2 := F0 m 15 ls [.ref q9]) rfl ?_
        refine lv_astore_n (lv' := [(3, .ref q9), (0, .ref (a 0)), (1, .int p0), (2, .ref h0)]) hx hb dL_marchCount_15 rfl hl (by decide) rfl (fun ls hl => ?_)
        refine lv_iconst (v := 2) hx hb dL_marchCount_16 (by decide) ?_
        have hP9 := hP.sub (ws' := [(h0, .inl (g 1, 1, .inr (.inl (fun _ => 0))))]) [0] rfl
        have hD9 := hD.sub (ws' := [(h0, .inl (g 1, 1, .inr (.inl (fun _ => 0))))]) [0] (by decide) rfl
        refine W.widen (k := 1) (n := 6) (Nat.le_of_ble_eq_true rfl) (Nat.le_of_ble_eq_true rfl) ?_
        exact W.iret (v := 2) hx hb hr (fun t ht9 hW9 => ⟨⟨2, (), rfl, (Or.inl ⟨rfl, (Or.inr (Or.inl ⟨c_2, c_3⟩))⟩), ⟨(by rw [ht9]; exact hP9), hD9⟩⟩, hS.F ht9⟩) hS.2.2 dL_marchCount_17 hlocks
      · obtain ⟨c_4, c_5, c_6⟩ := hB
        refine vx_catch hown [⟨0, 9, 12, 24⟩] ⟨0, 9, 15, 13⟩ [] (htab.trans rfl) (List.forall_mem_cons.mpr ⟨Or.inr ⟨by decide, "java/lang/IllegalArgumentException", ht _ w_540, hK.2.2.2.2.1 _ (List.mem_of_getElem? (i := 12) rfl)⟩, (fun _ h9 => absurd h9 List.not_mem_nil)⟩) (by decide) (by decide) (ht _ w_554) (hK.2.2.use w_555) hcell hv9 hcl ?_
        refine W.eq (g2 := F0 m 15 ls [.ref q9]) rfl ?_
        refine lv_astore_n (lv' := [(3, .ref q9), (0, .ref (a 0)), (1, .int p0), (2, .ref h0)]) hx hb dL_marchCount_15 rfl hl (by decide) rfl (fun ls hl => ?_)
        refine lv_iconst (v := 2) hx hb dL_marchCount_16 (by decide) ?_
        have hP9 := hP.sub (ws' := [(h0, .inl (g 1, 1, .inr (.inl (fun _ => 0))))]) [0] rfl
        have hD9 := hD.sub (ws' := [(h0, .inl (g 1, 1, .inr (.inl (fun _ => 0))))]) [0] (by decide) rfl
        refine W.widen (k := 1) (n := 6) (Nat.le_of_ble_eq_true rfl) (Nat.le_of_ble_eq_true rfl) ?_
        exact W.iret (v := 2) hx hb hr (fun t ht9 hW9 => ⟨⟨2, (), rfl, (Or.inl ⟨rfl, (Or.inr (Or.inr (Or.inl ⟨c_4, c_5, c_6⟩)))⟩), ⟨(by rw [ht9]; exact hP9), hD9⟩⟩, hS.F ht9⟩) hS.2.2 dL_marchCount_17 hlocks
      · obtain ⟨c_7, c_8, c_9, c_10⟩ := hB
        refine vx_catch hown [⟨0, 9, 12, 24⟩] ⟨0, 9, 15, 13⟩ [] (htab.trans rfl) (List.forall_mem_cons.mpr ⟨Or.inr ⟨by decide, "java/lang/IllegalArgumentException", ht _ w_540, hK.2.2.2.2.1 _ (List.mem_of_getElem? (i := 12) rfl)⟩, (fun _ h9 => absurd h9 List.not_mem_nil)⟩) (by decide) (by decide) (ht _ w_554) (hK.2.2.use w_555) hcell hv9 hcl ?_
        refine W.eq (g2 := F0 m 15 ls [.ref q9]) rfl ?_
        refine lv_astore_n (lv' := [(3, .ref q9), (0, .ref (a 0)), (1, .int p0), (2, .ref h0)]) hx hb dL_marchCount_15 rfl hl (by decide) rfl (fun ls hl => ?_)
        refine lv_iconst (v := 2) hx hb dL_marchCount_16 (by decide) ?_
        have hP9 := hP.sub (ws' := [(h0, .inl (g 1, 1, .inr (.inl (fun _ => 0))))]) [0] rfl
        have hD9 := hD.sub (ws' := [(h0, .inl (g 1, 1, .inr (.inl (fun _ => 0))))]) [0] (by decide) rfl
        refine W.widen (k := 1) (n := 6) (Nat.le_of_ble_eq_true rfl) (Nat.le_of_ble_eq_true rfl) ?_
        exact W.iret (v := 2) hx hb hr (fun t ht9 hW9 => ⟨⟨2, (), rfl, (Or.inl ⟨rfl, (Or.inr (Or.inr (Or.inr (Or.inl ⟨c_7, c_8, c_9, c_10⟩))))⟩), ⟨(by rw [ht9]; exact hP9), hD9⟩⟩, hS.F ht9⟩) hS.2.2 dL_marchCount_17 hlocks
      · obtain ⟨c_11, c_12, c_13, c_14, c_15⟩ := hB
        refine vx_catch hown [⟨0, 9, 12, 24⟩] ⟨0, 9, 15, 13⟩ [] (htab.trans rfl) (List.forall_mem_cons.mpr ⟨Or.inr ⟨by decide, "java/lang/IllegalArgumentException", ht _ w_540, hK.2.2.2.2.1 _ (List.mem_of_getElem? (i := 12) rfl)⟩, (fun _ h9 => absurd h9 List.not_mem_nil)⟩) (by decide) (by decide) (ht _ w_554) (hK.2.2.use w_555) hcell hv9 hcl ?_
        refine W.eq (g2 := F0 m 15 ls [.ref q9]) rfl ?_
        refine lv_astore_n (lv' := [(3, .ref q9), (0, .ref (a 0)), (1, .int p0), (2, .ref h0)]) hx hb dL_marchCount_15 rfl hl (by decide) rfl (fun ls hl => ?_)
        refine lv_iconst (v := 2) hx hb dL_marchCount_16 (by decide) ?_
        have hP9 := hP.sub (ws' := [(h0, .inl (g 1, 1, .inr (.inl (fun _ => 0))))]) [0] rfl
        have hD9 := hD.sub (ws' := [(h0, .inl (g 1, 1, .inr (.inl (fun _ => 0))))]) [0] (by decide) rfl
        refine W.widen (k := 1) (n := 6) (Nat.le_of_ble_eq_true rfl) (Nat.le_of_ble_eq_true rfl) ?_
        exact W.iret (v := 2) hx hb hr (fun t ht9 hW9 => ⟨⟨2, (), rfl, (Or.inl ⟨rfl, (Or.inr (Or.inr (Or.inr (Or.inr ⟨c_11, c_12, c_13, c_14, c_15⟩))))⟩), ⟨(by rw [ht9]; exact hP9), hD9⟩⟩, hS.F ht9⟩) hS.2.2 dL_marchCount_17 hlocks
    · obtain ⟨rfl, hB⟩ := hB
      obtain ⟨c_16, c_17, c_18, c_19, c_20⟩ := hB
      refine vx_catch hown [] ⟨0, 9, 12, 24⟩ [⟨0, 9, 15, 13⟩] (htab.trans rfl) (fun _ h9 => absurd h9 List.not_mem_nil) (by decide) (by decide) (ht _ w_540) (hK.2.2.use w_541) hcell hv9 hcl ?_
      refine W.eq (g2 := F0 m 12 ls [.ref q9]) rfl ?_
      refine lv_astore_n (lv' := [(3, .ref q9), (0, .ref (a 0)), (1, .int p0), (2, .ref h0)]) hx hb dL_marchCount_12 rfl hl (by decide) rfl (fun ls hl => ?_)
      refine lv_iconst (v := 1) hx hb dL_marchCount_13 (by decide) ?_
      have hP9 := hP.sub (ws' := [(h0, .inl (g 1, 1, .inr (.inl (fun _ => 0))))]) [0] rfl
      have hD9 := hD.sub (ws' := [(h0, .inl (g 1, 1, .inr (.inl (fun _ => 0))))]) [0] (by decide) rfl
      refine W.widen (k := 1) (n := 6) (Nat.le_of_ble_eq_true rfl) (Nat.le_of_ble_eq_true rfl) ?_
      exact W.iret (v := 1) hx hb hr (fun t ht9 hW9 => ⟨⟨1, (), rfl, (Or.inr ⟨rfl, ⟨c_16, c_17, c_18, c_19, c_20⟩⟩), ⟨(by rw [ht9]; exact hP9), hD9⟩⟩, hS.F ht9⟩) hS.2.2 dL_marchCount_14 hlocks
  · exact hw.elim
set_option maxHeartbeats 4000000 in
set_option maxRecDepth 100000 in
theorem k_L_marchFinds (l : Launch) (hfl : l.stackTraces = false) (D : va_G) (g : Nat → ClassId) (z0 sz : Nat) (a : Nat → Nat) (p0 : Int32) (p1 : Int32) (p2 : Int32) (p3 : Int32) (p4 : Int32) (h0 : Nat) (hc_p0 : isC p0) : Met l yL_marchFinds (.codeWith yL_marchFinds cL_marchFinds 8 (some .int) [(0, 23, 26, 24), (0, 23, 30, 13)] :: TG) (rmk 7 1 6 106) (va_Pc [.ref (a 0), .int p0, .int p1, .int p2, .int p3, .int p4, .ref h0] (PP D g z0 sz [(h0, .inl (g 1, 1, .inr (.inl (fun _ => 0)))), ((a 0), f_x a), ((a 9), f_memory a)])) (va_Qi (fun (r : Int32) (u : Unit) => ((r = 1) ∧ (((p0 = 115) ∧ (p1 < 0)) ∨ ((p0 = 115) ∧ (¬ p1 < 0) ∧ (p1 < 8) ∧ (¬ p0 = 99) ∧ (¬ p0 = 105) ∧ (¬ p0 = 97) ∧ (¬ p3 = 0) ∧ (¬ p3 = 1)) ∨ ((p0 = 115) ∧ (¬ p1 < 0) ∧ (¬ p1 < 8)) ∨ ((¬ p0 = 115) ∧ (p0 = 116) ∧ (p1 < 0)) ∨ ((¬ p0 = 115) ∧ (p0 = 116) ∧ (¬ p1 < 0) ∧ (p1 < 8) ∧ (¬ p0 = 99) ∧ (¬ p0 = 105) ∧ (¬ p0 = 97) ∧ (¬ p3 = 0) ∧ (¬ p3 = 1)) ∨ ((¬ p0 = 115) ∧ (p0 = 116) ∧ (¬ p1 < 0) ∧ (¬ p1 < 8)) ∨ ((¬ p0 = 115) ∧ (¬ p0 = 116) ∧ (p0 = 99) ∧ (p1 < 0)) ∨ ((¬ p0 = 115) ∧ (¬ p0 = 116) ∧ (p0 = 99) ∧ (¬ p1 < 0) ∧ (p1 < 8) ∧ (p2 < 0)) ∨ ((¬ p0 = 115) ∧ (¬ p0 = 116) ∧ (p0 = 99) ∧ (¬ p1 < 0) ∧ (p1 < 8) ∧ (¬ p2 < 0) ∧ ((8 : Int32) ≤ p2)) ∨ ((¬ p0 = 115) ∧ (¬ p0 = 116) ∧ (p0 = 99) ∧ (¬ p1 < 0) ∧ (p1 < 8) ∧ (¬ p2 < 0) ∧ (¬ (8 : Int32) ≤ p2) ∧ (¬ p1 = p2) ∧ (¬ p0 = 97) ∧ (p3 = 0) ∧ (¬ p4 = 0) ∧ (¬ p4 = 1)) ∨ ((¬ p0 = 115) ∧ (¬ p0 = 116) ∧ (p0 = 99) ∧ (¬ p1 < 0) ∧ (p1 < 8) ∧ (¬ p2 < 0) ∧ (¬ (8 : Int32) ≤ p2) ∧ (¬ p1 = p2) ∧ (¬ p0 = 97) ∧ (¬ p3 = 0) ∧ (p3 = 1) ∧ (¬ p4 = 0) ∧ (¬ p4 = 1)) ∨ ((¬ p0 = 115) ∧ (¬ p0 = 116) ∧ (p0 = 99) ∧ (¬ p1 < 0) ∧ (p1 < 8) ∧ (¬ p2 < 0) ∧ (¬ (8 : Int32) ≤ p2) ∧ (¬ p1 = p2) ∧ (¬ p0 = 97) ∧ (¬ p3 = 0) ∧ (¬ p3 = 1)) ∨ ((¬ p0 = 115) ∧ (¬ p0 = 116) ∧ (p0 = 99) ∧ (¬ p1 < 0) ∧ (p1 < 8) ∧ (¬ p2 < 0) ∧ (¬ (8 : Int32) ≤ p2) ∧ (p1 = p2)) ∨ ((¬ p0 = 115) ∧ (¬ p0 = 116) ∧ (p0 = 99) ∧ (¬ p1 < 0) ∧ (¬ p1 < 8)) ∨ ((¬ p0 = 115) ∧ (¬ p0 = 116) ∧ (¬ p0 = 99) ∧ (p0 = 105) ∧ (p1 < 0)) ∨ ((¬ p0 = 115) ∧ (¬ p0 = 116) ∧ (¬ p0 = 99) ∧ (p0 = 105) ∧ (¬ p1 < 0) ∧ (p1 < 8) ∧ (p2 < 0)) ∨ ((¬ p0 = 115) ∧ (¬ p0 = 116) ∧ (¬ p0 = 99) ∧ (p0 = 105) ∧ (¬ p1 < 0) ∧ (p1 < 8) ∧ (¬ p2 < 0) ∧ ((8 : Int32) ≤ p2)) ∨ ((¬ p0 = 115) ∧ (¬ p0 = 116) ∧ (¬ p0 = 99) ∧ (p0 = 105) ∧ (¬ p1 < 0) ∧ (p1 < 8) ∧ (¬ p2 < 0) ∧ (¬ (8 : Int32) ≤ p2) ∧ (¬ p1 = p2) ∧ (¬ p0 = 97) ∧ (¬ p3 = 0) ∧ (¬ p3 = 1)) ∨ ((¬ p0 = 115) ∧ (¬ p0 = 116) ∧ (¬ p0 = 99) ∧ (p0 = 105) ∧ (¬ p1 < 0) ∧ (p1 < 8) ∧ (¬ p2 < 0) ∧ (¬ (8 : Int32) ≤ p2) ∧ (p1 = p2)) ∨ ((¬ p0 = 115) ∧ (¬ p0 = 116) ∧ (¬ p0 = 99) ∧ (p0 = 105) ∧ (¬ p1 < 0) ∧ (¬ p1 < 8)) ∨ ((¬ p0 = 115) ∧ (¬ p0 = 116) ∧ (¬ p0 = 99) ∧ (¬ p0 = 105) ∧ (p0 = 97) ∧ (p1 < 0)) ∨ ((¬ p0 = 115) ∧ (¬ p0 = 116) ∧ (¬ p0 = 99) ∧ (¬ p0 = 105) ∧ (p0 = 97) ∧ (¬ p1 < 0) ∧ (p1 < 8) ∧ (p2 < 0)) ∨ ((¬ p0 = 115) ∧ (¬ p0 = 116) ∧ (¬ p0 = 99) ∧ (¬ p0 = 105) ∧ (p0 = 97) ∧ (¬ p1 < 0) ∧ (p1 < 8) ∧ (¬ p2 < 0) ∧ ((8 : Int32) ≤ p2)) ∨ ((¬ p0 = 115) ∧ (¬ p0 = 116) ∧ (¬ p0 = 99) ∧ (¬ p0 = 105) ∧ (p0 = 97) ∧ (¬ p1 < 0) ∧ (p1 < 8) ∧ (¬ p2 < 0) ∧ (¬ (8 : Int32) ≤ p2) ∧ (p1 = p2)) ∨ ((¬ p0 = 115) ∧ (¬ p0 = 116) ∧ (¬ p0 = 99) ∧ (¬ p0 = 105) ∧ (p0 = 97) ∧ (¬ p1 < 0) ∧ (¬ p1 < 8)) ∨ ((¬ p0 = 115) ∧ (¬ p0 = 116) ∧ (¬ p0 = 99) ∧ (¬ p0 = 105) ∧ (¬ p0 = 97)))) ∨ ((r = 2) ∧ (((p0 = 115) ∧ (¬ p1 < 0) ∧ (p1 < 8) ∧ (¬ p0 = 99) ∧ (¬ p0 = 105) ∧ (¬ p0 = 97) ∧ (p3 = 0)) ∨ ((p0 = 115) ∧ (¬ p1 < 0) ∧ (p1 < 8) ∧ (¬ p0 = 99) ∧ (¬ p0 = 105) ∧ (¬ p0 = 97) ∧ (¬ p3 = 0) ∧ (p3 = 1)) ∨ ((¬ p0 = 115) ∧ (p0 = 116) ∧ (¬ p1 < 0) ∧ (p1 < 8) ∧ (¬ p0 = 99) ∧ (¬ p0 = 105) ∧ (¬ p0 = 97) ∧ (p3 = 0)) ∨ ((¬ p0 = 115) ∧ (p0 = 116) ∧ (¬ p1 < 0) ∧ (p1 < 8) ∧ (¬ p0 = 99) ∧ (¬ p0 = 105) ∧ (¬ p0 = 97) ∧ (¬ p3 = 0) ∧ (p3 = 1)) ∨ ((¬ p0 = 115) ∧ (¬ p0 = 116) ∧ (p0 = 99) ∧ (¬ p1 < 0) ∧ (p1 < 8) ∧ (¬ p2 < 0) ∧ (¬ (8 : Int32) ≤ p2) ∧ (¬ p1 = p2) ∧ (¬ p0 = 97) ∧ (p3 = 0) ∧ (p4 = 0)) ∨ ((¬ p0 = 115) ∧ (¬ p0 = 116) ∧ (p0 = 99) ∧ (¬ p1 < 0) ∧ (p1 < 8) ∧ (¬ p2 < 0) ∧ (¬ (8 : Int32) ≤ p2) ∧ (¬ p1 = p2) ∧ (¬ p0 = 97) ∧ (p3 = 0) ∧ (¬ p4 = 0) ∧ (p4 = 1)) ∨ ((¬ p0 = 115) ∧ (¬ p0 = 116) ∧ (p0 = 99) ∧ (¬ p1 < 0) ∧ (p1 < 8) ∧ (¬ p2 < 0) ∧ (¬ (8 : Int32) ≤ p2) ∧ (¬ p1 = p2) ∧ (¬ p0 = 97) ∧ (¬ p3 = 0) ∧ (p3 = 1) ∧ (p4 = 0)) ∨ ((¬ p0 = 115) ∧ (¬ p0 = 116) ∧ (p0 = 99) ∧ (¬ p1 < 0) ∧ (p1 < 8) ∧ (¬ p2 < 0) ∧ (¬ (8 : Int32) ≤ p2) ∧ (¬ p1 = p2) ∧ (¬ p0 = 97) ∧ (¬ p3 = 0) ∧ (p3 = 1) ∧ (¬ p4 = 0) ∧ (p4 = 1)) ∨ ((¬ p0 = 115) ∧ (¬ p0 = 116) ∧ (¬ p0 = 99) ∧ (p0 = 105) ∧ (¬ p1 < 0) ∧ (p1 < 8) ∧ (¬ p2 < 0) ∧ (¬ (8 : Int32) ≤ p2) ∧ (¬ p1 = p2) ∧ (¬ p0 = 97) ∧ (p3 = 0)) ∨ ((¬ p0 = 115) ∧ (¬ p0 = 116) ∧ (¬ p0 = 99) ∧ (p0 = 105) ∧ (¬ p1 < 0) ∧ (p1 < 8) ∧ (¬ p2 < 0) ∧ (¬ (8 : Int32) ≤ p2) ∧ (¬ p1 = p2) ∧ (¬ p0 = 97) ∧ (¬ p3 = 0) ∧ (p3 = 1)) ∨ ((¬ p0 = 115) ∧ (¬ p0 = 116) ∧ (¬ p0 = 99) ∧ (¬ p0 = 105) ∧ (p0 = 97) ∧ (¬ p1 < 0) ∧ (p1 < 8) ∧ (¬ p2 < 0) ∧ (¬ (8 : Int32) ≤ p2) ∧ (¬ p1 = p2))))) (fun (u : Unit) (t : State) => va_P D vwCl [(h0, .inl (g 1, 1, .inr (.inl (fun _ => 0))))] t.heap ∧ va_D (va_A [(h0, .inl (g 1, 1, .inr (.inl (fun _ => 0)))), ((a 0), f_x a), ((a 9), f_memory a)] sz) [(h0, .inl (g 1, 1, .inr (.inl (fun _ => 0))))]) (va_A [(h0, .inl (g 1, 1, .inr (.inl (fun _ => 0)))), ((a 0), f_x a), ((a 9), f_memory a)] sz)) 1 6 (va_A [(h0, .inl (g 1, 1, .inr (.inl (fun _ => 0)))), ((a 0), f_x a), ((a 9), f_memory a)] sz) := by
  refine metW0 (cc := cL_marchFinds) (n := 8) (hh := [(0, 23, 26, 24), (0, 23, 30, 13)]) (by decide) (Nat.le_of_ble_eq_true rfl) ?_
  intro p e s m args below meth c hx hb hr hml htab hown ht hlocks hnm hP0 hD0 hK hZ hsz hz ls hl
  subst hsz
  have hA : ∀ q : Nat, s.heap.size ≤ q → va_A [(h0, .inl (g 1, 1, .inr (.inl (fun _ => 0)))), ((a 0), f_x a), ((a 9), f_memory a)] s.heap.size q := Anw
  have hAz : ∀ q, va_A [(h0, .inl (g 1, 1, .inr (.inl (fun _ => 0)))), ((a 0), f_x a), ((a 9), f_memory a)] s.heap.size q → z0 ≤ q := Awz hz hD0
  have hS : va_S (va_A [(h0, .inl (g 1, 1, .inr (.inl (fun _ => 0)))), ((a 0), f_x a), ((a 9), f_memory a)] s.heap.size) s.heap s.heap [] := va_S.rf
  have hD : va_D (va_A [(h0, .inl (g 1, 1, .inr (.inl (fun _ => 0)))), ((a 0), f_x a), ((a 9), f_memory a)] s.heap.size) [(h0, .inl (g 1, 1, .inr (.inl (fun _ => 0)))), ((a 0), f_x a), ((a 9), f_memory a)] := hD0.self
  have hP : va_P D vwCl [(h0, .inl (g 1, 1, .inr (.inl (fun _ => 0)))), ((a 0), f_x a), ((a 9), f_memory a)] s.heap := hP0
  have hl : lv_has ls 8 [(0, .ref (a 0)), (1, .int p0), (2, .int p1), (3, .int p2), (4, .int p3), (5, .int p4), (6, .ref h0)] := hl
  refine lv_aload hx hb dL_marchFinds_0 (lv_at hl 6 rfl) ?_
  refine lv_iconst (v := 0) hx hb dL_marchFinds_2 (by decide) ?_
  refine lv_aload_n hx hb dL_marchFinds_3 rfl (lv_at hl 0 rfl) ?_
  refine lv_iload_n hx hb dL_marchFinds_4 rfl (lv_at hl 1 rfl) ?_
  refine lv_iload_n hx hb dL_marchFinds_5 rfl (lv_at hl 2 rfl) ?_
  refine lv_iload_n hx hb dL_marchFinds_6 rfl (lv_at hl 3 rfl) ?_
  refine lv_iload hx hb dL_marchFinds_7 (lv_at hl 4 rfl) ?_
  refine lv_iload hx hb dL_marchFinds_9 (lv_at hl 5 rfl) ?_
  have hPc : va_P D vwCl [((a 0), f_x a), ((a 9), f_memory a)] _ := hP.sub (ws' := [((a 0), f_x a), ((a 9), f_memory a)]) [1, 2] rfl
  have hDc : va_D (fun q => z0 ≤ q) [((a 0), f_x a), ((a 9), f_memory a)] := (hD.to hAz).pick (ws' := [((a 0), f_x a), ((a 9), f_memory a)]) [1, 2] (by decide) rfl
  have hFc := va_free (wc := [((a 0), f_x a), ((a 9), f_memory a)]) hD hS hA [1, 2] rfl
  refine vx_calli (vx_runV (As := [.int p0, .int p1, .int p2, .int p3, .int p4]) (rest := [.int 0, .ref h0]) ⟨hx, hb, hml, hown, ht⟩ (k_X11_marchFinds l hfl D g z0 _ a p0 p1 p2 p3 p4 hc_p0) (cwV 5 ht (gV w_664 w_666 w_667 w_31 w_665) rfl rfl rfl (by decide +kernel) (le2 rfl rfl)) ⟨PP.blind, va_recv hK.1 hP (ci := 17) (q0 := 1) rfl rfl, PP.mk' hK hZ hz hAz hS hPc hDc⟩ rfl rfl hl.1 rfl (lv_room (Nat.le_of_ble_eq_true rfl)) dL_marchFinds_11 (le2 rfl rfl)) hS (fun q _ h => hFc q h) hFc (fun q _ h => hFc q h) (fun E ce q9 u t H locs ht1 hvm hw hB hz1 hk1 hS hcell hv9 hcl => ?_) (fun r u t H locs ht1 hvm hw hB hz1 hk1 hS => ?_)
  · obtain ⟨hP, hD⟩ := va_join (wr := [(h0, .inl (g 1, 1, .inr (.inl (fun _ => 0))))]) (w1 := []) hP hD [1, 2] [0] rfl rfl (by decide) (by decide) hk1 hFc nil_P nil_D
    have hP : va_P D vwCl [(h0, .inl (g 1, 1, .inr (.inl (fun _ => 0))))] H := hP
    have hD : va_D (va_A [(h0, .inl (g 1, 1, .inr (.inl (fun _ => 0)))), ((a 0), f_x a), ((a 9), f_memory a)] s.heap.size) [(h0, .inl (g 1, 1, .inr (.inl (fun _ => 0))))] := hD
    rcases hB with hB | hB
    · obtain ⟨rfl, hB⟩ := hB
      rcases hB with hB | hB | hB | hB | hB | hB | hB | hB | hB | hB | hB | hB | hB | hB | hB | hB | hB | hB | hB | hB | hB | hB | hB | hB | hB | hB
      · obtain ⟨c_1, c_2⟩ := hB
        refine vx_catch hown [] ⟨0, 23, 26, 24⟩ [⟨0, 23, 30, 13⟩] (htab.trans rfl) (fun _ h9 => absurd h9 List.not_mem_nil) (by decide) (by decide) (ht _ w_540) (hK.2.2.use w_541) hcell hv9 hcl ?_
        refine W.eq (g2 := F0 m 26 ls [.ref q9]) rfl ?_
        refine lv_astore (lv' := [(7, .ref q9), (0, .ref (a 0)), (1, .int p0), (2, .int p1), (3, .int p2), (4, .int p3), (5, .int p4), (6, .ref h0)]) hx hb dL_marchFinds_26 hl (by decide) rfl (fun ls hl => ?_)
        refine lv_iconst (v := 1) hx hb dL_marchFinds_28 (by decide) ?_
        have hP9 := hP.sub (ws' := [(h0, .inl (g 1, 1, .inr (.inl (fun _ => 0))))]) [0] rfl
        have hD9 := hD.sub (ws' := [(h0, .inl (g 1, 1, .inr (.inl (fun _ => 0))))]) [0] (by decide) rfl
        refine W.widen (k := 1) (n := 6) (Nat.le_of_ble_eq_true rfl) (Nat.le_of_ble_eq_true rfl) ?_
        exact W.iret (v := 1) hx hb hr (fun t ht9 hW9 => ⟨⟨1, (), rfl, (Or.inl ⟨rfl, (Or.inl ⟨c_1, c_2⟩)⟩), ⟨(by rw [ht9]; exact hP9), hD9⟩⟩, hS.F ht9⟩) hS.2.2 dL_marchFinds_29 hlocks
      · obtain ⟨c_3, c_4, c_5, c_6, c_7, c_8, c_9, c_10⟩ := hB
        refine vx_catch hown [] ⟨0, 23, 26, 24⟩ [⟨0, 23, 30, 13⟩] (htab.trans rfl) (fun _ h9 => absurd h9 List.not_mem_nil) (by decide) (by decide) (ht _ w_540) (hK.2.2.use w_541) hcell hv9 hcl ?_
        refine W.eq (g2 := F0 m 26 ls [.ref q9]) rfl ?_
        refine lv_astore (lv' := [(7, .ref q9), (0, .ref (a 0)), (1, .int p0), (2, .int p1), (3, .int p2), (4, .int p3), (5, .int p4), (6, .ref h0)]) hx hb dL_marchFinds_26 hl (by decide) rfl (fun ls hl => ?_)
        refine lv_iconst (v := 1) hx hb dL_marchFinds_28 (by decide) ?_
        have hP9 := hP.sub (ws' := [(h0, .inl (g 1, 1, .inr (.inl (fun _ => 0))))]) [0] rfl
        have hD9 := hD.sub (ws' := [(h0, .inl (g 1, 1, .inr (.inl (fun _ => 0))))]) [0] (by decide) rfl
        refine W.widen (k := 1) (n := 6) (Nat.le_of_ble_eq_true rfl) (Nat.le_of_ble_eq_true rfl) ?_
        exact W.iret (v := 1) hx hb hr (fun t ht9 hW9 => ⟨⟨1, (), rfl, (Or.inl ⟨rfl, (Or.inr (Or.inl ⟨c_3, c_4, c_5, c_6, c_7, c_8, c_9, c_10⟩))⟩), ⟨(by rw [ht9]; exact hP9), hD9⟩⟩, hS.F ht9⟩) hS.2.2 dL_marchFinds_29 hlocks
      · obtain ⟨c_11, c_12, c_13⟩ := hB
        refine vx_catch hown [] ⟨0, 23, 26, 24⟩ [⟨0, 23, 30, 13⟩] (htab.trans rfl) (fun _ h9 => absurd h9 List.not_mem_nil) (by decide) (by decide) (ht _ w_540) (hK.2.2.use w_541) hcell hv9 hcl ?_
        refine W.eq (g2 := F0 m 26 ls [.ref q9]) rfl ?_
        refine lv_astore (lv' := [(7, .ref q9), (0, .ref (a 0)), (1, .int p0), (2, .int p1), (3, .int p2), (4, .int p3), (5, .int p4), (6, .ref h0)]) hx hb dL_marchFinds_26 hl (by decide) rfl (fun ls hl => ?_)
        refine lv_iconst (v := 1) hx hb dL_marchFinds_28 (by decide) ?_
        have hP9 := hP.sub (ws' := [(h0, .inl (g 1, 1, .inr (.inl (fun _ => 0))))]) [0] rfl
        have hD9 := hD.sub (ws' := [(h0, .inl (g 1, 1, .inr (.inl (fun _ => 0))))]) [0] (by decide) rfl
        refine W.widen (k := 1) (n := 6) (Nat.le_of_ble_eq_true rfl) (Nat.le_of_ble_eq_true rfl) ?_
        exact W.iret (v := 1) hx hb hr (fun t ht9 hW9 => ⟨⟨1, (), rfl, (Or.inl ⟨rfl, (Or.inr (Or.inr (Or.inl ⟨c_11, c_12, c_13⟩)))⟩), ⟨(by rw [ht9]; exact hP9), hD9⟩⟩, hS.F ht9⟩) hS.2.2 dL_marchFinds_29 hlocks
      · obtain ⟨c_14, c_15, c_16⟩ := hB
        refine vx_catch hown [] ⟨0, 23, 26, 24⟩ [⟨0, 23, 30, 13⟩] (htab.trans rfl) (fun _ h9 => absurd h9 List.not_mem_nil) (by decide) (by decide) (ht _ w_540) (hK.2.2.use w_541) hcell hv9 hcl ?_
        refine W.eq (g2 := F0 m 26 ls [.ref q9]) rfl ?_
        refine lv_astore (lv' := [(7, .ref q9), (0, .ref (a 0)), (1, .int p0), (2, .int p1), (3, .int p2), (4, .int p3), (5, .int p4), (6, .ref h0)]) hx hb dL_marchFinds_26 hl (by decide) rfl (fun ls hl => ?_)
        refine lv_iconst (v := 1) hx hb dL_marchFinds_28 (by decide) ?_
        have hP9 := hP.sub (ws' := [(h0, .inl (g 1, 1, .inr (.inl (fun _ => 0))))]) [0] rfl
        have hD9 := hD.sub (ws' := [(h0, .inl (g 1, 1, .inr (.inl (fun _ => 0))))]) [0] (by decide) rfl
        refine W.widen (k := 1) (n := 6) (Nat.le_of_ble_eq_true rfl) (Nat.le_of_ble_eq_true rfl) ?_
        exact W.iret (v := 1) hx hb hr (fun t ht9 hW9 => ⟨⟨1, (), rfl, (Or.inl ⟨rfl, (Or.inr (Or.inr (Or.inr (Or.inl ⟨c_14, c_15, c_16⟩))))⟩), ⟨(by rw [ht9]; exact hP9), hD9⟩⟩, hS.F ht9⟩) hS.2.2 dL_marchFinds_29 hlocks
      · obtain ⟨c_17, c_18, c_19, c_20, c_21, c_22, c_23, c_24, c_25⟩ := hB
        refine vx_catch hown [] ⟨0, 23, 26, 24⟩ [⟨0, 23, 30, 13⟩] (htab.trans rfl) (fun _ h9 => absurd h9 List.not_mem_nil) (by decide) (by decide) (ht _ w_540) (hK.2.2.use w_541) hcell hv9 hcl ?_
        refine W.eq (g2 := F0 m 26 ls [.ref q9]) rfl ?_
        refine lv_astore (lv' := [(7, .ref q9), (0, .ref (a 0)), (1, .int p0), (2, .int p1), (3, .int p2), (4, .int p3), (5, .int p4), (6, .ref h0)]) hx hb dL_marchFinds_26 hl (by decide) rfl (fun ls hl => ?_)
        refine lv_iconst (v := 1) hx hb dL_marchFinds_28 (by decide) ?_
        have hP9 := hP.sub (ws' := [(h0, .inl (g 1, 1, .inr (.inl (fun _ => 0))))]) [0] rfl
        have hD9 := hD.sub (ws' := [(h0, .inl (g 1, 1, .inr (.inl (fun _ => 0))))]) [0] (by decide) rfl
        refine W.widen (k := 1) (n := 6) (Nat.le_of_ble_eq_true rfl) (Nat.le_of_ble_eq_true rfl) ?_
        exact W.iret (v := 1) hx hb hr (fun t ht9 hW9 => ⟨⟨1, (), rfl, (Or.inl ⟨rfl, (Or.inr (Or.inr (Or.inr (Or.inr (Or.inl ⟨c_17, c_18, c_19, c_20, c_21, c_22, c_23, c_24, c_25⟩)))))⟩), ⟨(by rw [ht9]; exact hP9), hD9⟩⟩, hS.F ht9⟩) hS.2.2 dL_marchFinds_29 hlocks
      · obtain ⟨c_26, c_27, c_28, c_29⟩ := hB
        refine vx_catch hown [] ⟨0, 23, 26, 24⟩ [⟨0, 23, 30, 13⟩] (htab.trans rfl) (fun _ h9 => absurd h9 List.not_mem_nil) (by decide) (by decide) (ht _ w_540) (hK.2.2.use w_541) hcell hv9 hcl ?_
        refine W.eq (g2 := F0 m 26 ls [.ref q9]) rfl ?_
        refine lv_astore (lv' := [(7, .ref q9), (0, .ref (a 0)), (1, .int p0), (2, .int p1), (3, .int p2), (4, .int p3), (5, .int p4), (6, .ref h0)]) hx hb dL_marchFinds_26 hl (by decide) rfl (fun ls hl => ?_)
        refine lv_iconst (v := 1) hx hb dL_marchFinds_28 (by decide) ?_
        have hP9 := hP.sub (ws' := [(h0, .inl (g 1, 1, .inr (.inl (fun _ => 0))))]) [0] rfl
        have hD9 := hD.sub (ws' := [(h0, .inl (g 1, 1, .inr (.inl (fun _ => 0))))]) [0] (by decide) rfl
        refine W.widen (k := 1) (n := 6) (Nat.le_of_ble_eq_true rfl) (Nat.le_of_ble_eq_true rfl) ?_
        exact W.iret (v := 1) hx hb hr (fun t ht9 hW9 => ⟨⟨1, (), rfl, (Or.inl ⟨rfl, (Or.inr (Or.inr (Or.inr (Or.inr (Or.inr (Or.inl ⟨c_26, c_27, c_28, c_29⟩))))))⟩), ⟨(by rw [ht9]; exact hP9), hD9⟩⟩, hS.F ht9⟩) hS.2.2 dL_marchFinds_29 hlocks
      · obtain ⟨c_30, c_31, c_32, c_33⟩ := hB
        refine vx_catch hown [] ⟨0, 23, 26, 24⟩ [⟨0, 23, 30, 13⟩] (htab.trans rfl) (fun _ h9 => absurd h9 List.not_mem_nil) (by decide) (by decide) (ht _ w_540) (hK.2.2.use w_541) hcell hv9 hcl ?_
        refine W.eq (g2 := F0 m 26 ls [.ref q9]) rfl ?_
        refine lv_astore (lv' := [(7, .ref q9), (0, .ref (a 0)), (1, .int p0), (2, .int p1), (3, .int p2), (4, .int p3), (5, .int p4), (6, .ref h0)]) hx hb dL_marchFinds_26 hl (by decide) rfl (fun ls hl => ?_)
        refine lv_iconst (v := 1) hx hb dL_marchFinds_28 (by decide) ?_
        have hP9 := hP.sub (ws' := [(h0, .inl (g 1, 1, .inr (.inl (fun _ => 0))))]) [0] rfl
        have hD9 := hD.sub (ws' := [(h0, .inl (g 1, 1, .inr (.inl (fun _ => 0))))]) [0] (by decide) rfl
        refine W.widen (k := 1) (n := 6) (Nat.le_of_ble_eq_true rfl) (Nat.le_of_ble_eq_true rfl) ?_
        exact W.iret (v := 1) hx hb hr (fun t ht9 hW9 => ⟨⟨1, (), rfl, (Or.inl ⟨rfl, (Or.inr (Or.inr (Or.inr (Or.inr (Or.inr (Or.inr (Or.inl ⟨c_30, c_31, c_32, c_33⟩)))))))⟩), ⟨(by rw [ht9]; exact hP9), hD9⟩⟩, hS.F ht9⟩) hS.2.2 dL_marchFinds_29 hlocks
      · obtain ⟨c_34, c_35, c_36, c_37, c_38, c_39⟩ := hB
        refine vx_catch hown [] ⟨0, 23, 26, 24⟩ [⟨0, 23, 30, 13⟩] (htab.trans rfl) (fun _ h9 => absurd h9 List.not_mem_nil) (by decide) (by decide) (ht _ w_540) (hK.2.2.use w_541) hcell hv9 hcl ?_
        refine W.eq (g2 := F0 m 26 ls [.ref q9]) rfl ?_
        refine lv_astore (lv' := [(7, .ref q9), (0, .ref (a 0)), (1, .int p0), (2, .int p1), (3, .int p2), (4, .int p3), (5, .int p4), (6, .ref h0)]) hx hb dL_marchFinds_26 hl (by decide) rfl (fun ls hl => ?_)
        refine lv_iconst (v := 1) hx hb dL_marchFinds_28 (by decide) ?_
        have hP9 := hP.sub (ws' := [(h0, .inl (g 1, 1, .inr (.inl (fun _ => 0))))]) [0] rfl
        have hD9 := hD.sub (ws' := [(h0, .inl (g 1, 1, .inr (.inl (fun _ => 0))))]) [0] (by decide) rfl
        refine W.widen (k := 1) (n := 6) (Nat.le_of_ble_eq_true rfl) (Nat.le_of_ble_eq_true rfl) ?_
        exact W.iret (v := 1) hx hb hr (fun t ht9 hW9 => ⟨⟨1, (), rfl, (Or.inl ⟨rfl, (Or.inr (Or.inr (Or.inr (Or.inr (Or.inr (Or.inr (Or.inr (Or.inl ⟨c_34, c_35, c_36, c_37, c_38, c_39⟩))))))))⟩), ⟨(by rw [ht9]; exact hP9), hD9⟩⟩, hS.F ht9⟩) hS.2.2 dL_marchFinds_29 hlocks
      · obtain ⟨c_40, c_41, c_42, c_43, c_44, c_45, c_46⟩ := hB
        refine vx_catch hown [] ⟨0, 23, 26, 24⟩ [⟨0, 23, 30, 13⟩] (htab.trans rfl) (fun _ h9 => absurd h9 List.not_mem_nil) (by decide) (by decide) (ht _ w_540) (hK.2.2.use w_541) hcell hv9 hcl ?_
        refine W.eq (g2 := F0 m 26 ls [.ref q9]) rfl ?_
        refine lv_astore (lv' := [(7, .ref q9), (0, .ref (a 0)), (1, .int p0), (2, .int p1), (3, .int p2), (4, .int p3), (5, .int p4), (6, .ref h0)]) hx hb dL_marchFinds_26 hl (by decide) rfl (fun ls hl => ?_)
        refine lv_iconst (v := 1) hx hb dL_marchFinds_28 (by decide) ?_
        have hP9 := hP.sub (ws' := [(h0, .inl (g 1, 1, .inr (.inl (fun _ => 0))))]) [0] rfl
        have hD9 := hD.sub (ws' := [(h0, .inl (g 1, 1, .inr (.inl (fun _ => 0))))]) [0] (by decide) rfl
        refine W.widen (k := 1) (n := 6) (Nat.le_of_ble_eq_true rfl) (Nat.le_of_ble_eq_true rfl) ?_
        exact W.iret (v := 1) hx hb hr (fun t ht9 hW9 => ⟨⟨1, (), rfl, (Or.inl ⟨rfl, (Or.inr (Or.inr (Or.inr (Or.inr (Or.inr (Or.inr (Or.inr (Or.inr (Or.inl ⟨c_40, c_41, c_42, c_43, c_44, c_45, c_46⟩)))))))))⟩), ⟨(by rw [ht9]; exact hP9), hD9⟩⟩, hS.F ht9⟩) hS.2.2 dL_marchFinds_29 hlocks
      · obtain ⟨c_47, c_48, c_49, c_50, c_51, c_52, c_53, c_54, c_55, c_56, c_57, c_58⟩ := hB
        refine vx_catch hown [] ⟨0, 23, 26, 24⟩ [⟨0, 23, 30, 13⟩] (htab.trans rfl) (fun _ h9 => absurd h9 List.not_mem_nil) (by decide) (by decide) (ht _ w_540) (hK.2.2.use w_541) hcell hv9 hcl ?_
        refine W.eq (g2 := F0 m 26 ls [.ref q9]) rfl ?_
        refine lv_astore (lv' := [(7, .ref q9), (0, .ref (a 0)), (1, .int p0), (2, .int p1), (3, .int p2), (4, .int p3), (5, .int p4), (6, .ref h0)]) hx hb dL_marchFinds_26 hl (by decide) rfl (fun ls hl => ?_)
        refine lv_iconst (v := 1) hx hb dL_marchFinds_28 (by decide) ?_
        have hP9 := hP.sub (ws' := [(h0, .inl (g 1, 1, .inr (.inl (fun _ => 0))))]) [0] rfl
        have hD9 := hD.sub (ws' := [(h0, .inl (g 1, 1, .inr (.inl (fun _ => 0))))]) [0] (by decide) rfl
        refine W.widen (k := 1) (n := 6) (Nat.le_of_ble_eq_true rfl) (Nat.le_of_ble_eq_true rfl) ?_
        exact W.iret (v := 1) hx hb hr (fun t ht9 hW9 => ⟨⟨1, (), rfl, (Or.inl ⟨rfl, (Or.inr (Or.inr (Or.inr (Or.inr (Or.inr (Or.inr (Or.inr (Or.inr (Or.inr (Or.inl ⟨c_47, c_48, c_49, c_50, c_51, c_52, c_53, c_54, c_55, c_56, c_57, c_58⟩))))))))))⟩), ⟨(by rw [ht9]; exact hP9), hD9⟩⟩, hS.F ht9⟩) hS.2.2 dL_marchFinds_29 hlocks
      · obtain ⟨c_59, c_60, c_61, c_62, c_63, c_64, c_65, c_66, c_67, c_68, c_69, c_70, c_71⟩ := hB
        refine vx_catch hown [] ⟨0, 23, 26, 24⟩ [⟨0, 23, 30, 13⟩] (htab.trans rfl) (fun _ h9 => absurd h9 List.not_mem_nil) (by decide) (by decide) (ht _ w_540) (hK.2.2.use w_541) hcell hv9 hcl ?_
        refine W.eq (g2 := F0 m 26 ls [.ref q9]) rfl ?_
        refine lv_astore (lv' := [(7, .ref q9), (0, .ref (a 0)), (1, .int p0), (2, .int p1), (3, .int p2), (4, .int p3), (5, .int p4), (6, .ref h0)]) hx hb dL_marchFinds_26 hl (by decide) rfl (fun ls hl => ?_)
        refine lv_iconst (v := 1) hx hb dL_marchFinds_28 (by decide) ?_
        have hP9 := hP.sub (ws' := [(h0, .inl (g 1, 1, .inr (.inl (fun _ => 0))))]) [0] rfl
        have hD9 := hD.sub (ws' := [(h0, .inl (g 1, 1, .inr (.inl (fun _ => 0))))]) [0] (by decide) rfl
        refine W.widen (k := 1) (n := 6) (Nat.le_of_ble_eq_true rfl) (Nat.le_of_ble_eq_true rfl) ?_
        exact W.iret (v := 1) hx hb hr (fun t ht9 hW9 => ⟨⟨1, (), rfl, (Or.inl ⟨rfl, (Or.inr (Or.inr (Or.inr (Or.inr (Or.inr (Or.inr (Or.inr (Or.inr (Or.inr (Or.inr (Or.inl ⟨c_59, c_60, c_61, c_62, c_63, c_64, c_65, c_66, c_67, c_68, c_69, c_70, c_71⟩)))))))))))⟩), ⟨(by rw [ht9]; exact hP9), hD9⟩⟩, hS.F ht9⟩) hS.2.2 dL_marchFinds_29 hlocks
      · obtain ⟨c_72, c_73, c_74, c_75, c_76, c_77, c_78, c_79, c_80, c_81, c_82⟩ := hB
        refine vx_catch hown [] ⟨0, 23, 26, 24⟩ [⟨0, 23, 30, 13⟩] (htab.trans rfl) (fun _ h9 => absurd h9 List.not_mem_nil) (by decide) (by decide) (ht _ w_540) (hK.2.2.use w_541) hcell hv9 hcl ?_
        refine W.eq (g2 := F0 m 26 ls [.ref q9]) rfl ?_
        refine lv_astore (lv' := [(7, .ref q9), (0, .ref (a 0)), (1, .int p0), (2, .int p1), (3, .int p2), (4, .int p3), (5, .int p4), (6, .ref h0)]) hx hb dL_marchFinds_26 hl (by decide) rfl (fun ls hl => ?_)
        refine lv_iconst (v := 1) hx hb dL_marchFinds_28 (by decide) ?_
        have hP9 := hP.sub (ws' := [(h0, .inl (g 1, 1, .inr (.inl (fun _ => 0))))]) [0] rfl
        have hD9 := hD.sub (ws' := [(h0, .inl (g 1, 1, .inr (.inl (fun _ => 0))))]) [0] (by decide) rfl
        refine W.widen (k := 1) (n := 6) (Nat.le_of_ble_eq_true rfl) (Nat.le_of_ble_eq_true rfl) ?_
        exact W.iret (v := 1) hx hb hr (fun t ht9 hW9 => ⟨⟨1, (), rfl, (Or.inl ⟨rfl, (Or.inr (Or.inr (Or.inr (Or.inr (Or.inr (Or.inr (Or.inr (Or.inr (Or.inr (Or.inr (Or.inr (Or.inl ⟨c_72, c_73, c_74, c_75, c_76, c_77, c_78, c_79, c_80, c_81, c_82⟩))))))))))))⟩), ⟨(by rw [ht9]; exact hP9), hD9⟩⟩, hS.F ht9⟩) hS.2.2 dL_marchFinds_29 hlocks
      · obtain ⟨c_83, c_84, c_85, c_86, c_87, c_88, c_89, c_90⟩ := hB
        refine vx_catch hown [] ⟨0, 23, 26, 24⟩ [⟨0, 23, 30, 13⟩] (htab.trans rfl) (fun _ h9 => absurd h9 List.not_mem_nil) (by decide) (by decide) (ht _ w_540) (hK.2.2.use w_541) hcell hv9 hcl ?_
        refine W.eq (g2 := F0 m 26 ls [.ref q9]) rfl ?_
        refine lv_astore (lv' := [(7, .ref q9), (0, .ref (a 0)), (1, .int p0), (2, .int p1), (3, .int p2), (4, .int p3), (5, .int p4), (6, .ref h0)]) hx hb dL_marchFinds_26 hl (by decide) rfl (fun ls hl => ?_)
        refine lv_iconst (v := 1) hx hb dL_marchFinds_28 (by decide) ?_
        have hP9 := hP.sub (ws' := [(h0, .inl (g 1, 1, .inr (.inl (fun _ => 0))))]) [0] rfl
        have hD9 := hD.sub (ws' := [(h0, .inl (g 1, 1, .inr (.inl (fun _ => 0))))]) [0] (by decide) rfl
        refine W.widen (k := 1) (n := 6) (Nat.le_of_ble_eq_true rfl) (Nat.le_of_ble_eq_true rfl) ?_
        exact W.iret (v := 1) hx hb hr (fun t ht9 hW9 => ⟨⟨1, (), rfl, (Or.inl ⟨rfl, (Or.inr (Or.inr (Or.inr (Or.inr (Or.inr (Or.inr (Or.inr (Or.inr (Or.inr (Or.inr (Or.inr (Or.inr (Or.inl ⟨c_83, c_84, c_85, c_86, c_87, c_88, c_89, c_90⟩)))))))))))))⟩), ⟨(by rw [ht9]; exact hP9), hD9⟩⟩, hS.F ht9⟩) hS.2.2 dL_marchFinds_29 hlocks
      · obtain ⟨c_91, c_92, c_93, c_94, c_95⟩ := hB
        refine vx_catch hown [] ⟨0, 23, 26, 24⟩ [⟨0, 23, 30, 13⟩] (htab.trans rfl) (fun _ h9 => absurd h9 List.not_mem_nil) (by decide) (by decide) (ht _ w_540) (hK.2.2.use w_541) hcell hv9 hcl ?_
        refine W.eq (g2 := F0 m 26 ls [.ref q9]) rfl ?_
        refine lv_astore (lv' := [(7, .ref q9), (0, .ref (a 0)), (1, .int p0), (2, .int p1), (3, .int p2), (4, .int p3), (5, .int p4), (6, .ref h0)]) hx hb dL_marchFinds_26 hl (by decide) rfl (fun ls hl => ?_)
        refine lv_iconst (v := 1) hx hb dL_marchFinds_28 (by decide) ?_
        have hP9 := hP.sub (ws' := [(h0, .inl (g 1, 1, .inr (.inl (fun _ => 0))))]) [0] rfl
        have hD9 := hD.sub (ws' := [(h0, .inl (g 1, 1, .inr (.inl (fun _ => 0))))]) [0] (by decide) rfl
        refine W.widen (k := 1) (n := 6) (Nat.le_of_ble_eq_true rfl) (Nat.le_of_ble_eq_true rfl) ?_
        exact W.iret (v := 1) hx hb hr (fun t ht9 hW9 => ⟨⟨1, (), rfl, (Or.inl ⟨rfl, (Or.inr (Or.inr (Or.inr (Or.inr (Or.inr (Or.inr (Or.inr (Or.inr (Or.inr (Or.inr (Or.inr (Or.inr (Or.inr (Or.inl ⟨c_91, c_92, c_93, c_94, c_95⟩))))))))))))))⟩), ⟨(by rw [ht9]; exact hP9), hD9⟩⟩, hS.F ht9⟩) hS.2.2 dL_marchFinds_29 hlocks
      · obtain ⟨c_96, c_97, c_98, c_99, c_100⟩ := hB
        refine vx_catch hown [] ⟨0, 23, 26, 24⟩ [⟨0, 23, 30, 13⟩] (htab.trans rfl) (fun _ h9 => absurd h9 List.not_mem_nil) (by decide) (by decide) (ht _ w_540) (hK.2.2.use w_541) hcell hv9 hcl ?_
        refine W.eq (g2 := F0 m 26 ls [.ref q9]) rfl ?_
        refine lv_astore (lv' := [(7, .ref q9), (0, .ref (a 0)), (1, .int p0), (2, .int p1), (3, .int p2), (4, .int p3), (5, .int p4), (6, .ref h0)]) hx hb dL_marchFinds_26 hl (by decide) rfl (fun ls hl => ?_)
        refine lv_iconst (v := 1) hx hb dL_marchFinds_28 (by decide) ?_
        have hP9 := hP.sub (ws' := [(h0, .inl (g 1, 1, .inr (.inl (fun _ => 0))))]) [0] rfl
        have hD9 := hD.sub (ws' := [(h0, .inl (g 1, 1, .inr (.inl (fun _ => 0))))]) [0] (by decide) rfl
        refine W.widen (k := 1) (n := 6) (Nat.le_of_ble_eq_true rfl) (Nat.le_of_ble_eq_true rfl) ?_
        exact W.iret (v := 1) hx hb hr (fun t ht9 hW9 => ⟨⟨1, (), rfl, (Or.inl ⟨rfl, (Or.inr (Or.inr (Or.inr (Or.inr (Or.inr (Or.inr (Or.inr (Or.inr (Or.inr (Or.inr (Or.inr (Or.inr (Or.inr (Or.inr (Or.inl ⟨c_96, c_97, c_98, c_99, c_100⟩)))))))))))))))⟩), ⟨(by rw [ht9]; exact hP9), hD9⟩⟩, hS.F ht9⟩) hS.2.2 dL_marchFinds_29 hlocks
      · obtain ⟨c_101, c_102, c_103, c_104, c_105, c_106, c_107⟩ := hB
        refine vx_catch hown [] ⟨0, 23, 26, 24⟩ [⟨0, 23, 30, 13⟩] (htab.trans rfl) (fun _ h9 => absurd h9 List.not_mem_nil) (by decide) (by decide) (ht _ w_540) (hK.2.2.use w_541) hcell hv9 hcl ?_
        refine W.eq (g2 := F0 m 26 ls [.ref q9]) rfl ?_
        refine lv_astore (lv' := [(7, .ref q9), (0, .ref (a 0)), (1, .int p0), (2, .int p1), (3, .int p2), (4, .int p3), (5, .int p4), (6, .ref h0)]) hx hb dL_marchFinds_26 hl (by decide) rfl (fun ls hl => ?_)
        refine lv_iconst (v := 1) hx hb dL_marchFinds_28 (by decide) ?_
        have hP9 := hP.sub (ws' := [(h0, .inl (g 1, 1, .inr (.inl (fun _ => 0))))]) [0] rfl
        have hD9 := hD.sub (ws' := [(h0, .inl (g 1, 1, .inr (.inl (fun _ => 0))))]) [0] (by decide) rfl
        refine W.widen (k := 1) (n := 6) (Nat.le_of_ble_eq_true rfl) (Nat.le_of_ble_eq_true rfl) ?_
        exact W.iret (v := 1) hx hb hr (fun t ht9 hW9 => ⟨⟨1, (), rfl, (Or.inl ⟨rfl, (Or.inr (Or.inr (Or.inr (Or.inr (Or.inr (Or.inr (Or.inr (Or.inr (Or.inr (Or.inr (Or.inr (Or.inr (Or.inr (Or.inr (Or.inr (Or.inl ⟨c_101, c_102, c_103, c_104, c_105, c_106, c_107⟩))))))))))))))))⟩), ⟨(by rw [ht9]; exact hP9), hD9⟩⟩, hS.F ht9⟩) hS.2.2 dL_marchFinds_29 hlocks
      · obtain ⟨c_108, c_109, c_110, c_111, c_112, c_113, c_114, c_115⟩ := hB
        refine vx_catch hown [] ⟨0, 23, 26, 24⟩ [⟨0, 23, 30, 13⟩] (htab.trans rfl) (fun _ h9 => absurd h9 List.not_mem_nil) (by decide) (by decide) (ht _ w_540) (hK.2.2.use w_541) hcell hv9 hcl ?_
        refine W.eq (g2 := F0 m 26 ls [.ref q9]) rfl ?_
        refine lv_astore (lv' := [(7, .ref q9), (0, .ref (a 0)), (1, .int p0), (2, .int p1), (3, .int p2), (4, .int p3), (5, .int p4), (6, .ref h0)]) hx hb dL_marchFinds_26 hl (by decide) rfl (fun ls hl => ?_)
        refine lv_iconst (v := 1) hx hb dL_marchFinds_28 (by decide) ?_
        have hP9 := hP.sub (ws' := [(h0, .inl (g 1, 1, .inr (.inl (fun _ => 0))))]) [0] rfl
        have hD9 := hD.sub (ws' := [(h0, .inl (g 1, 1, .inr (.inl (fun _ => 0))))]) [0] (by decide) rfl
        refine W.widen (k := 1) (n := 6) (Nat.le_of_ble_eq_true rfl) (Nat.le_of_ble_eq_true rfl) ?_
        exact W.iret (v := 1) hx hb hr (fun t ht9 hW9 => ⟨⟨1, (), rfl, (Or.inl ⟨rfl, (Or.inr (Or.inr (Or.inr (Or.inr (Or.inr (Or.inr (Or.inr (Or.inr (Or.inr (Or.inr (Or.inr (Or.inr (Or.inr (Or.inr (Or.inr (Or.inr (Or.inl ⟨c_108, c_109, c_110, c_111, c_112, c_113, c_114, c_115⟩)))))))))))))))))⟩), ⟨(by rw [ht9]; exact hP9), hD9⟩⟩, hS.F ht9⟩) hS.2.2 dL_marchFinds_29 hlocks
      · obtain ⟨c_116, c_117, c_118, c_119, c_120, c_121, c_122, c_123, c_124, c_125, c_126, c_127⟩ := hB
        refine vx_catch hown [] ⟨0, 23, 26, 24⟩ [⟨0, 23, 30, 13⟩] (htab.trans rfl) (fun _ h9 => absurd h9 List.not_mem_nil) (by decide) (by decide) (ht _ w_540) (hK.2.2.use w_541) hcell hv9 hcl ?_
        refine W.eq (g2 := F0 m 26 ls [.ref q9]) rfl ?_
        refine lv_astore (lv' := [(7, .ref q9), (0, .ref (a 0)), (1, .int p0), (2, .int p1), (3, .int p2), (4, .int p3), (5, .int p4), (6, .ref h0)]) hx hb dL_marchFinds_26 hl (by decide) rfl (fun ls hl => ?_)
        refine lv_iconst (v := 1) hx hb dL_marchFinds_28 (by decide) ?_
        have hP9 := hP.sub (ws' := [(h0, .inl (g 1, 1, .inr (.inl (fun _ => 0))))]) [0] rfl
        have hD9 := hD.sub (ws' := [(h0, .inl (g 1, 1, .inr (.inl (fun _ => 0))))]) [0] (by decide) rfl
        refine W.widen (k := 1) (n := 6) (Nat.le_of_ble_eq_true rfl) (Nat.le_of_ble_eq_true rfl) ?_
        exact W.iret (v := 1) hx hb hr (fun t ht9 hW9 => ⟨⟨1, (), rfl, (Or.inl ⟨rfl, (Or.inr (Or.inr (Or.inr (Or.inr (Or.inr (Or.inr (Or.inr (Or.inr (Or.inr (Or.inr (Or.inr (Or.inr (Or.inr (Or.inr (Or.inr (Or.inr (Or.inr (Or.inl ⟨c_116, c_117, c_118, c_119, c_120, c_121, c_122, c_123, c_124, c_125, c_126, c_127⟩))))))))))))))))))⟩), ⟨(by rw [ht9]; exact hP9), hD9⟩⟩, hS.F ht9⟩) hS.2.2 dL_marchFinds_29 hlocks
      · obtain ⟨c_128, c_129, c_130, c_131, c_132, c_133, c_134, c_135, c_136⟩ := hB
        refine vx_catch hown [] ⟨0, 23, 26, 24⟩ [⟨0, 23, 30, 13⟩] (htab.trans rfl) (fun _ h9 => absurd h9 List.not_mem_nil) (by decide) (by decide) (ht _ w_540) (hK.2.2.use w_541) hcell hv9 hcl ?_
        refine W.eq (g2 := F0 m 26 ls [.ref q9]) rfl ?_
        refine lv_astore (lv' := [(7, .ref q9), (0, .ref (a 0)), (1, .int p0), (2, .int p1), (3, .int p2), (4, .int p3), (5, .int p4), (6, .ref h0)]) hx hb dL_marchFinds_26 hl (by decide) rfl (fun ls hl => ?_)
        refine lv_iconst (v := 1) hx hb dL_marchFinds_28 (by decide) ?_
        have hP9 := hP.sub (ws' := [(h0, .inl (g 1, 1, .inr (.inl (fun _ => 0))))]) [0] rfl
        have hD9 := hD.sub (ws' := [(h0, .inl (g 1, 1, .inr (.inl (fun _ => 0))))]) [0] (by decide) rfl
        refine W.widen (k := 1) (n := 6) (Nat.le_of_ble_eq_true rfl) (Nat.le_of_ble_eq_true rfl) ?_
        exact W.iret (v := 1) hx hb hr (fun t ht9 hW9 => ⟨⟨1, (), rfl, (Or.inl ⟨rfl, (Or.inr (Or.inr (Or.inr (Or.inr (Or.inr (Or.inr (Or.inr (Or.inr (Or.inr (Or.inr (Or.inr (Or.inr (Or.inr (Or.inr (Or.inr (Or.inr (Or.inr (Or.inr (Or.inl ⟨c_128, c_129, c_130, c_131, c_132, c_133, c_134, c_135, c_136⟩)))))))))))))))))))⟩), ⟨(by rw [ht9]; exact hP9), hD9⟩⟩, hS.F ht9⟩) hS.2.2 dL_marchFinds_29 hlocks
      · obtain ⟨c_137, c_138, c_139, c_140, c_141, c_142⟩ := hB
        refine vx_catch hown [] ⟨0, 23, 26, 24⟩ [⟨0, 23, 30, 13⟩] (htab.trans rfl) (fun _ h9 => absurd h9 List.not_mem_nil) (by decide) (by decide) (ht _ w_540) (hK.2.2.use w_541) hcell hv9 hcl ?_
        refine W.eq (g2 := F0 m 26 ls [.ref q9]) rfl ?_
        refine lv_astore (lv' := [(7, .ref q9), (0, .ref (a 0)), (1, .int p0), (2, .int p1), (3, .int p2), (4, .int p3), (5, .int p4), (6, .ref h0)]) hx hb dL_marchFinds_26 hl (by decide) rfl (fun ls hl => ?_)
        refine lv_iconst (v := 1) hx hb dL_marchFinds_28 (by decide) ?_
        have hP9 := hP.sub (ws' := [(h0, .inl (g 1, 1, .inr (.inl (fun _ => 0))))]) [0] rfl
        have hD9 := hD.sub (ws' := [(h0, .inl (g 1, 1, .inr (.inl (fun _ => 0))))]) [0] (by decide) rfl
        refine W.widen (k := 1) (n := 6) (Nat.le_of_ble_eq_true rfl) (Nat.le_of_ble_eq_true rfl) ?_
        exact W.iret (v := 1) hx hb hr (fun t ht9 hW9 => ⟨⟨1, (), rfl, (Or.inl ⟨rfl, (Or.inr (Or.inr (Or.inr (Or.inr (Or.inr (Or.inr (Or.inr (Or.inr (Or.inr (Or.inr (Or.inr (Or.inr (Or.inr (Or.inr (Or.inr (Or.inr (Or.inr (Or.inr (Or.inr (Or.inl ⟨c_137, c_138, c_139, c_140, c_141, c_142⟩))))))))))))))))))))⟩), ⟨(by rw [ht9]; exact hP9), hD9⟩⟩, hS.F ht9⟩) hS.2.2 dL_marchFinds_29 hlocks
      · obtain ⟨c_143, c_144, c_145, c_146, c_147, c_148⟩ := hB
        refine vx_catch hown [] ⟨0, 23, 26, 24⟩ [⟨0, 23, 30, 13⟩] (htab.trans rfl) (fun _ h9 => absurd h9 List.not_mem_nil) (by decide) (by decide) (ht _ w_540) (hK.2.2.use w_541) hcell hv9 hcl ?_
        refine W.eq (g2 := F0 m 26 ls [.ref q9]) rfl ?_
        refine lv_astore (lv' := [(7, .ref q9), (0, .ref (a 0)), (1, .int p0), (2, .int p1), (3, .int p2), (4, .int p3), (5, .int p4), (6, .ref h0)]) hx hb dL_marchFinds_26 hl (by decide) rfl (fun ls hl => ?_)
        refine lv_iconst (v := 1) hx hb dL_marchFinds_28 (by decide) ?_
        have hP9 := hP.sub (ws' := [(h0, .inl (g 1, 1, .inr (.inl (fun _ => 0))))]) [0] rfl
        have hD9 := hD.sub (ws' := [(h0, .inl (g 1, 1, .inr (.inl (fun _ => 0))))]) [0] (by decide) rfl
        refine W.widen (k := 1) (n := 6) (Nat.le_of_ble_eq_true rfl) (Nat.le_of_ble_eq_true rfl) ?_
        exact W.iret (v := 1) hx hb hr (fun t ht9 hW9 => ⟨⟨1, (), rfl, (Or.inl ⟨rfl, (Or.inr (Or.inr (Or.inr (Or.inr (Or.inr (Or.inr (Or.inr (Or.inr (Or.inr (Or.inr (Or.inr (Or.inr (Or.inr (Or.inr (Or.inr (Or.inr (Or.inr (Or.inr (Or.inr (Or.inr (Or.inl ⟨c_143, c_144, c_145, c_146, c_147, c_148⟩)))))))))))))))))))))⟩), ⟨(by rw [ht9]; exact hP9), hD9⟩⟩, hS.F ht9⟩) hS.2.2 dL_marchFinds_29 hlocks
      · obtain ⟨c_149, c_150, c_151, c_152, c_153, c_154, c_155, c_156⟩ := hB
        refine vx_catch hown [] ⟨0, 23, 26, 24⟩ [⟨0, 23, 30, 13⟩] (htab.trans rfl) (fun _ h9 => absurd h9 List.not_mem_nil) (by decide) (by decide) (ht _ w_540) (hK.2.2.use w_541) hcell hv9 hcl ?_
        refine W.eq (g2 := F0 m 26 ls [.ref q9]) rfl ?_
        refine lv_astore (lv' := [(7, .ref q9), (0, .ref (a 0)), (1, .int p0), (2, .int p1), (3, .int p2), (4, .int p3), (5, .int p4), (6, .ref h0)]) hx hb dL_marchFinds_26 hl (by decide) rfl (fun ls hl => ?_)
        refine lv_iconst (v := 1) hx hb dL_marchFinds_28 (by decide) ?_
        have hP9 := hP.sub (ws' := [(h0, .inl (g 1, 1, .inr (.inl (fun _ => 0))))]) [0] rfl
        have hD9 := hD.sub (ws' := [(h0, .inl (g 1, 1, .inr (.inl (fun _ => 0))))]) [0] (by decide) rfl
        refine W.widen (k := 1) (n := 6) (Nat.le_of_ble_eq_true rfl) (Nat.le_of_ble_eq_true rfl) ?_
        exact W.iret (v := 1) hx hb hr (fun t ht9 hW9 => ⟨⟨1, (), rfl, (Or.inl ⟨rfl, (Or.inr (Or.inr (Or.inr (Or.inr (Or.inr (Or.inr (Or.inr (Or.inr (Or.inr (Or.inr (Or.inr (Or.inr (Or.inr (Or.inr (Or.inr (Or.inr (Or.inr (Or.inr (Or.inr (Or.inr (Or.inr (Or.inl ⟨c_149, c_150, c_151, c_152, c_153, c_154, c_155, c_156⟩))))))))))))))))))))))⟩), ⟨(by rw [ht9]; exact hP9), hD9⟩⟩, hS.F ht9⟩) hS.2.2 dL_marchFinds_29 hlocks
      · obtain ⟨c_157, c_158, c_159, c_160, c_161, c_162, c_163, c_164, c_165⟩ := hB
        refine vx_catch hown [] ⟨0, 23, 26, 24⟩ [⟨0, 23, 30, 13⟩] (htab.trans rfl) (fun _ h9 => absurd h9 List.not_mem_nil) (by decide) (by decide) (ht _ w_540) (hK.2.2.use w_541) hcell hv9 hcl ?_
        refine W.eq (g2 := F0 m 26 ls [.ref q9]) rfl ?_
        refine lv_astore (lv' := [(7, .ref q9), (0, .ref (a 0)), (1, .int p0), (2, .int p1), (3, .int p2), (4, .int p3), (5, .int p4), (6, .ref h0)]) hx hb dL_marchFinds_26 hl (by decide) rfl (fun ls hl => ?_)
        refine lv_iconst (v := 1) hx hb dL_marchFinds_28 (by decide) ?_
        have hP9 := hP.sub (ws' := [(h0, .inl (g 1, 1, .inr (.inl (fun _ => 0))))]) [0] rfl
        have hD9 := hD.sub (ws' := [(h0, .inl (g 1, 1, .inr (.inl (fun _ => 0))))]) [0] (by decide) rfl
        refine W.widen (k := 1) (n := 6) (Nat.le_of_ble_eq_true rfl) (Nat.le_of_ble_eq_true rfl) ?_
        exact W.iret (v := 1) hx hb hr (fun t ht9 hW9 => ⟨⟨1, (), rfl, (Or.inl ⟨rfl, (Or.inr (Or.inr (Or.inr (Or.inr (Or.inr (Or.inr (Or.inr (Or.inr (Or.inr (Or.inr (Or.inr (Or.inr (Or.inr (Or.inr (Or.inr (Or.inr (Or.inr (Or.inr (Or.inr (Or.inr (Or.inr (Or.inr (Or.inl ⟨c_157, c_158, c_159, c_160, c_161, c_162, c_163, c_164, c_165⟩)))))))))))))))))))))))⟩), ⟨(by rw [ht9]; exact hP9), hD9⟩⟩, hS.F ht9⟩) hS.2.2 dL_marchFinds_29 hlocks
      · obtain ⟨c_166, c_167, c_168, c_169, c_170, c_171, c_172, c_173, c_174, c_175⟩ := hB
        refine vx_catch hown [] ⟨0, 23, 26, 24⟩ [⟨0, 23, 30, 13⟩] (htab.trans rfl) (fun _ h9 => absurd h9 List.not_mem_nil) (by decide) (by decide) (ht _ w_540) (hK.2.2.use w_541) hcell hv9 hcl ?_
        refine W.eq (g2 := F0 m 26 ls [.ref q9]) rfl ?_
        refine lv_astore (lv' := [(7, .ref q9), (0, .ref (a 0)), (1, .int p0), (2, .int p1), (3, .int p2), (4, .int p3), (5, .int p4), (6, .ref h0)]) hx hb dL_marchFinds_26 hl (by decide) rfl (fun ls hl => ?_)
        refine lv_iconst (v := 1) hx hb dL_marchFinds_28 (by decide) ?_
        have hP9 := hP.sub (ws' := [(h0, .inl (g 1, 1, .inr (.inl (fun _ => 0))))]) [0] rfl
        have hD9 := hD.sub (ws' := [(h0, .inl (g 1, 1, .inr (.inl (fun _ => 0))))]) [0] (by decide) rfl
        refine W.widen (k := 1) (n := 6) (Nat.le_of_ble_eq_true rfl) (Nat.le_of_ble_eq_true rfl) ?_
        exact W.iret (v := 1) hx hb hr (fun t ht9 hW9 => ⟨⟨1, (), rfl, (Or.inl ⟨rfl, (Or.inr (Or.inr (Or.inr (Or.inr (Or.inr (Or.inr (Or.inr (Or.inr (Or.inr (Or.inr (Or.inr (Or.inr (Or.inr (Or.inr (Or.inr (Or.inr (Or.inr (Or.inr (Or.inr (Or.inr (Or.inr (Or.inr (Or.inr (Or.inl ⟨c_166, c_167, c_168, c_169, c_170, c_171, c_172, c_173, c_174, c_175⟩))))))))))))))))))))))))⟩), ⟨(by rw [ht9]; exact hP9), hD9⟩⟩, hS.F ht9⟩) hS.2.2 dL_marchFinds_29 hlocks
      · obtain ⟨c_176, c_177, c_178, c_179, c_180, c_181, c_182⟩ := hB
        refine vx_catch hown [] ⟨0, 23, 26, 24⟩ [⟨0, 23, 30, 13⟩] (htab.trans rfl) (fun _ h9 => absurd h9 List.not_mem_nil) (by decide) (by decide) (ht _ w_540) (hK.2.2.use w_541) hcell hv9 hcl ?_
        refine W.eq (g2 := F0 m 26 ls [.ref q9]) rfl ?_
        refine lv_astore (lv' := [(7, .ref q9), (0, .ref (a 0)), (1, .int p0), (2, .int p1), (3, .int p2), (4, .int p3), (5, .int p4), (6, .ref h0)]) hx hb dL_marchFinds_26 hl (by decide) rfl (fun ls hl => ?_)
        refine lv_iconst (v := 1) hx hb dL_marchFinds_28 (by decide) ?_
        have hP9 := hP.sub (ws' := [(h0, .inl (g 1, 1, .inr (.inl (fun _ => 0))))]) [0] rfl
        have hD9 := hD.sub (ws' := [(h0, .inl (g 1, 1, .inr (.inl (fun _ => 0))))]) [0] (by decide) rfl
        refine W.widen (k := 1) (n := 6) (Nat.le_of_ble_eq_true rfl) (Nat.le_of_ble_eq_true rfl) ?_
        exact W.iret (v := 1) hx hb hr (fun t ht9 hW9 => ⟨⟨1, (), rfl, (Or.inl ⟨rfl, (Or.inr (Or.inr (Or.inr (Or.inr (Or.inr (Or.inr (Or.inr (Or.inr (Or.inr (Or.inr (Or.inr (Or.inr (Or.inr (Or.inr (Or.inr (Or.inr (Or.inr (Or.inr (Or.inr (Or.inr (Or.inr (Or.inr (Or.inr (Or.inr (Or.inl ⟨c_176, c_177, c_178, c_179, c_180, c_181, c_182⟩)))))))))))))))))))))))))⟩), ⟨(by rw [ht9]; exact hP9), hD9⟩⟩, hS.F ht9⟩) hS.2.2 dL_marchFinds_29 hlocks
      · obtain ⟨c_183, c_184, c_185, c_186, c_187⟩ := hB
        refine vx_catch hown [] ⟨0, 23, 26, 24⟩ [⟨0, 23, 30, 13⟩] (htab.trans rfl) (fun _ h9 => absurd h9 List.not_mem_nil) (by decide) (by decide) (ht _ w_540) (hK.2.2.use w_541) hcell hv9 hcl ?_
        refine W.eq (g2 := F0 m 26 ls [.ref q9]) rfl ?_
        refine lv_astore (lv' := [(7, .ref q9), (0, .ref (a 0)), (1, .int p0), (2, .int p1), (3, .int p2), (4, .int p3), (5, .int p4), (6, .ref h0)]) hx hb dL_marchFinds_26 hl (by decide) rfl (fun ls hl => ?_)
        refine lv_iconst (v := 1) hx hb dL_marchFinds_28 (by decide) ?_
        have hP9 := hP.sub (ws' := [(h0, .inl (g 1, 1, .inr (.inl (fun _ => 0))))]) [0] rfl
        have hD9 := hD.sub (ws' := [(h0, .inl (g 1, 1, .inr (.inl (fun _ => 0))))]) [0] (by decide) rfl
        refine W.widen (k := 1) (n := 6) (Nat.le_of_ble_eq_true rfl) (Nat.le_of_ble_eq_true rfl) ?_
        exact W.iret (v := 1) hx hb hr (fun t ht9 hW9 => ⟨⟨1, (), rfl, (Or.inl ⟨rfl, (Or.inr (Or.inr (Or.inr (Or.inr (Or.inr (Or.inr (Or.inr (Or.inr (Or.inr (Or.inr (Or.inr (Or.inr (Or.inr (Or.inr (Or.inr (Or.inr (Or.inr (Or.inr (Or.inr (Or.inr (Or.inr (Or.inr (Or.inr (Or.inr (Or.inr ⟨c_183, c_184, c_185, c_186, c_187⟩)))))))))))))))))))))))))⟩), ⟨(by rw [ht9]; exact hP9), hD9⟩⟩, hS.F ht9⟩) hS.2.2 dL_marchFinds_29 hlocks
    · obtain ⟨rfl, hB⟩ := hB
      rcases hB with hB | hB | hB | hB | hB | hB | hB | hB | hB | hB | hB
      · obtain ⟨c_188, c_189, c_190, c_191, c_192, c_193, c_194⟩ := hB
        refine vx_catch hown [⟨0, 23, 26, 24⟩] ⟨0, 23, 30, 13⟩ [] (htab.trans rfl) (List.forall_mem_cons.mpr ⟨Or.inr ⟨by decide, "java/lang/IllegalArgumentException", ht _ w_540, hK.2.2.2.2.1 _ (List.mem_of_getElem? (i := 12) rfl)⟩, (fun _ h9 => absurd h9 List.not_mem_nil)⟩) (by decide) (by decide) (ht _ w_554) (hK.2.2.use w_555) hcell hv9 hcl ?_
        refine W.eq (g2 := F0 m 30 ls [.ref q9]) rfl ?_
        refine lv_astore (lv' := [(7, .ref q9), (0, .ref (a 0)), (1, .int p0), (2, .int p1), (3, .int p2), (4, .int p3), (5, .int p4), (6, .ref h0)]) hx hb dL_marchFinds_30 hl (by decide) rfl (fun ls hl => ?_)
        refine lv_iconst (v := 2) hx hb dL_marchFinds_32 (by decide) ?_
        have hP9 := hP.sub (ws' := [(h0, .inl (g 1, 1, .inr (.inl (fun _ => 0))))]) [0] rfl
        have hD9 := hD.sub (ws' := [(h0, .inl (g 1, 1, .inr (.inl (fun _ => 0))))]) [0] (by decide) rfl
        refine W.widen (k := 1) (n := 6) (Nat.le_of_ble_eq_true rfl) (Nat.le_of_ble_eq_true rfl) ?_
        exact W.iret (v := 2) hx hb hr (fun t ht9 hW9 => ⟨⟨2, (), rfl, (Or.inr ⟨rfl, (Or.inl ⟨c_188, c_189, c_190, c_191, c_192, c_193, c_194⟩)⟩), ⟨(by rw [ht9]; exact hP9), hD9⟩⟩, hS.F ht9⟩) hS.2.2 dL_marchFinds_33 hlocks
      · obtain ⟨c_195, c_196, c_197, c_198, c_199, c_200, c_201, c_202⟩ := hB
        refine vx_catch hown [⟨0, 23, 26, 24⟩] ⟨0, 23, 30, 13⟩ [] (htab.trans rfl) (List.forall_mem_cons.mpr ⟨Or.inr ⟨by decide, "java/lang/IllegalArgumentException", ht _ w_540, hK.2.2.2.2.1 _ (List.mem_of_getElem? (i := 12) rfl)⟩, (fun _ h9 => absurd h9 List.not_mem_nil)⟩) (by decide) (by decide) (ht _ w_554) (hK.2.2.use w_555) hcell hv9 hcl ?_
        refine W.eq (g2 := F0 m 30 ls [.ref q9]) rfl ?_
        refine lv_astore (lv' := [(7, .ref q9), (0, .ref (a 0)), (1, .int p0), (2, .int p1), (3, .int p2), (4, .int p3), (5, .int p4), (6, .ref h0)]) hx hb dL_marchFinds_30 hl (by decide) rfl (fun ls hl => ?_)
        refine lv_iconst (v := 2) hx hb dL_marchFinds_32 (by decide) ?_
        have hP9 := hP.sub (ws' := [(h0, .inl (g 1, 1, .inr (.inl (fun _ => 0))))]) [0] rfl
        have hD9 := hD.sub (ws' := [(h0, .inl (g 1, 1, .inr (.inl (fun _ => 0))))]) [0] (by decide) rfl
        refine W.widen (k := 1) (n := 6) (Nat.le_of_ble_eq_true rfl) (Nat.le_of_ble_eq_true rfl) ?_
        exact W.iret (v := 2) hx hb hr (fun t ht9 hW9 => ⟨⟨2, (), rfl, (Or.inr ⟨rfl, (Or.inr (Or.inl ⟨c_195, c_196, c_197, c_198, c_199, c_200, c_201, c_202⟩))⟩), ⟨(by rw [ht9]; exact hP9), hD9⟩⟩, hS.F ht9⟩) hS.2.2 dL_marchFinds_33 hlocks
      · obtain ⟨c_203, c_204, c_205, c_206, c_207, c_208, c_209, c_210⟩ := hB
        refine vx_catch hown [⟨0, 23, 26, 24⟩] ⟨0, 23, 30, 13⟩ [] (htab.trans rfl) (List.forall_mem_cons.mpr ⟨Or.inr ⟨by decide, "java/lang/IllegalArgumentException", ht _ w_540, hK.2.2.2.2.1 _ (List.mem_of_getElem? (i := 12) rfl)⟩, (fun _ h9 => absurd h9 List.not_mem_nil)⟩) (by decide) (by decide) (ht _ w_554) (hK.2.2.use w_555) hcell hv9 hcl ?_
        refine W.eq (g2 := F0 m 30 ls [.ref q9]) rfl ?_
        refine lv_astore (lv' := [(7, .ref q9), (0, .ref (a 0)), (1, .int p0), (2, .int p1), (3, .int p2), (4, .int p3), (5, .int p4), (6, .ref h0)]) hx hb dL_marchFinds_30 hl (by decide) rfl (fun ls hl => ?_)
        refine lv_iconst (v := 2) hx hb dL_marchFinds_32 (by decide) ?_
        have hP9 := hP.sub (ws' := [(h0, .inl (g 1, 1, .inr (.inl (fun _ => 0))))]) [0] rfl
        have hD9 := hD.sub (ws' := [(h0, .inl (g 1, 1, .inr (.inl (fun _ => 0))))]) [0] (by decide) rfl
        refine W.widen (k := 1) (n := 6) (Nat.le_of_ble_eq_true rfl) (Nat.le_of_ble_eq_true rfl) ?_
        exact W.iret (v := 2) hx hb hr (fun t ht9 hW9 => ⟨⟨2, (), rfl, (Or.inr ⟨rfl, (Or.inr (Or.inr (Or.inl ⟨c_203, c_204, c_205, c_206, c_207, c_208, c_209, c_210⟩)))⟩), ⟨(by rw [ht9]; exact hP9), hD9⟩⟩, hS.F ht9⟩) hS.2.2 dL_marchFinds_33 hlocks
      · obtain ⟨c_211, c_212, c_213, c_214, c_215, c_216, c_217, c_218, c_219⟩ := hB
        refine vx_catch hown [⟨0, 23, 26, 24⟩] ⟨0, 23, 30, 13⟩ [] (htab.trans rfl) (List.forall_mem_cons.mpr ⟨Or.inr ⟨by decide, "java/lang/IllegalArgumentException", ht _ w_540, hK.2.2.2.2.1 _ (List.mem_of_getElem? (i := 12) rfl)⟩, (fun _ h9 => absurd h9 List.not_mem_nil)⟩) (by decide) (by decide) (ht _ w_554) (hK.2.2.use w_555) hcell hv9 hcl ?_
        refine W.eq (g2 := F0 m 30 ls [.ref q9]) rfl ?_
        refine lv_astore (lv' := [(7, .ref q9), (0, .ref (a 0)), (1, .int p0), (2, .int p1), (3, .int p2), (4, .int p3), (5, .int p4), (6, .ref h0)]) hx hb dL_marchFinds_30 hl (by decide) rfl (fun ls hl => ?_)
        refine lv_iconst (v := 2) hx hb dL_marchFinds_32 (by decide) ?_
        have hP9 := hP.sub (ws' := [(h0, .inl (g 1, 1, .inr (.inl (fun _ => 0))))]) [0] rfl
        have hD9 := hD.sub (ws' := [(h0, .inl (g 1, 1, .inr (.inl (fun _ => 0))))]) [0] (by decide) rfl
        refine W.widen (k := 1) (n := 6) (Nat.le_of_ble_eq_true rfl) (Nat.le_of_ble_eq_true rfl) ?_
        exact W.iret (v := 2) hx hb hr (fun t ht9 hW9 => ⟨⟨2, (), rfl, (Or.inr ⟨rfl, (Or.inr (Or.inr (Or.inr (Or.inl ⟨c_211, c_212, c_213, c_214, c_215, c_216, c_217, c_218, c_219⟩))))⟩), ⟨(by rw [ht9]; exact hP9), hD9⟩⟩, hS.F ht9⟩) hS.2.2 dL_marchFinds_33 hlocks
      · obtain ⟨c_220, c_221, c_222, c_223, c_224, c_225, c_226, c_227, c_228, c_229, c_230⟩ := hB
        refine vx_catch hown [⟨0, 23, 26, 24⟩] ⟨0, 23, 30, 13⟩ [] (htab.trans rfl) (List.forall_mem_cons.mpr ⟨Or.inr ⟨by decide, "java/lang/IllegalArgumentException", ht _ w_540, hK.2.2.2.2.1 _ (List.mem_of_getElem? (i := 12) rfl)⟩, (fun _ h9 => absurd h9 List.not_mem_nil)⟩) (by decide) (by decide) (ht _ w_554) (hK.2.2.use w_555) hcell hv9 hcl ?_
        refine W.eq (g2 := F0 m 30 ls [.ref q9]) rfl ?_
        refine lv_astore (lv' := [(7, .ref q9), (0, .ref (a 0)), (1, .int p0), (2, .int p1), (3, .int p2), (4, .int p3), (5, .int p4), (6, .ref h0)]) hx hb dL_marchFinds_30 hl (by decide) rfl (fun ls hl => ?_)
        refine lv_iconst (v := 2) hx hb dL_marchFinds_32 (by decide) ?_
        have hP9 := hP.sub (ws' := [(h0, .inl (g 1, 1, .inr (.inl (fun _ => 0))))]) [0] rfl
        have hD9 := hD.sub (ws' := [(h0, .inl (g 1, 1, .inr (.inl (fun _ => 0))))]) [0] (by decide) rfl
        refine W.widen (k := 1) (n := 6) (Nat.le_of_ble_eq_true rfl) (Nat.le_of_ble_eq_true rfl) ?_
        exact W.iret (v := 2) hx hb hr (fun t ht9 hW9 => ⟨⟨2, (), rfl, (Or.inr ⟨rfl, (Or.inr (Or.inr (Or.inr (Or.inr (Or.inl ⟨c_220, c_221, c_222, c_223, c_224, c_225, c_226, c_227, c_228, c_229, c_230⟩)))))⟩), ⟨(by rw [ht9]; exact hP9), hD9⟩⟩, hS.F ht9⟩) hS.2.2 dL_marchFinds_33 hlocks
      · obtain ⟨c_231, c_232, c_233, c_234, c_235, c_236, c_237, c_238, c_239, c_240, c_241, c_242⟩ := hB
        refine vx_catch hown [⟨0, 23, 26, 24⟩] ⟨0, 23, 30, 13⟩ [] (htab.trans rfl) (List.forall_mem_cons.mpr ⟨Or.inr ⟨by decide, "java/lang/IllegalArgumentException", ht _ w_540, hK.2.2.2.2.1 _ (List.mem_of_getElem? (i := 12) rfl)⟩, (fun _ h9 => absurd h9 List.not_mem_nil)⟩) (by decide) (by decide) (ht _ w_554) (hK.2.2.use w_555) hcell hv9 hcl ?_
        refine W.eq (g2 := F0 m 30 ls [.ref q9]) rfl ?_
        refine lv_astore (lv' := [(7, .ref q9), (0, .ref (a 0)), (1, .int p0), (2, .int p1), (3, .int p2), (4, .int p3), (5, .int p4), (6, .ref h0)]) hx hb dL_marchFinds_30 hl (by decide) rfl (fun ls hl => ?_)
        refine lv_iconst (v := 2) hx hb dL_marchFinds_32 (by decide) ?_
        have hP9 := hP.sub (ws' := [(h0, .inl (g 1, 1, .inr (.inl (fun _ => 0))))]) [0] rfl
        have hD9 := hD.sub (ws' := [(h0, .inl (g 1, 1, .inr (.inl (fun _ => 0))))]) [0] (by decide) rfl
        refine W.widen (k := 1) (n := 6) (Nat.le_of_ble_eq_true rfl) (Nat.le_of_ble_eq_true rfl) ?_
        exact W.iret (v := 2) hx hb hr (fun t ht9 hW9 => ⟨⟨2, (), rfl, (Or.inr ⟨rfl, (Or.inr (Or.inr (Or.inr (Or.inr (Or.inr (Or.inl ⟨c_231, c_232, c_233, c_234, c_235, c_236, c_237, c_238, c_239, c_240, c_241, c_242⟩))))))⟩), ⟨(by rw [ht9]; exact hP9), hD9⟩⟩, hS.F ht9⟩) hS.2.2 dL_marchFinds_33 hlocks
      · obtain ⟨c_243, c_244, c_245, c_246, c_247, c_248, c_249, c_250, c_251, c_252, c_253, c_254⟩ := hB
        refine vx_catch hown [⟨0, 23, 26, 24⟩] ⟨0, 23, 30, 13⟩ [] (htab.trans rfl) (List.forall_mem_cons.mpr ⟨Or.inr ⟨by decide, "java/lang/IllegalArgumentException", ht _ w_540, hK.2.2.2.2.1 _ (List.mem_of_getElem? (i := 12) rfl)⟩, (fun _ h9 => absurd h9 List.not_mem_nil)⟩) (by decide) (by decide) (ht _ w_554) (hK.2.2.use w_555) hcell hv9 hcl ?_
        refine W.eq (g2 := F0 m 30 ls [.ref q9]) rfl ?_
        refine lv_astore (lv' := [(7, .ref q9), (0, .ref (a 0)), (1, .int p0), (2, .int p1), (3, .int p2), (4, .int p3), (5, .int p4), (6, .ref h0)]) hx hb dL_marchFinds_30 hl (by decide) rfl (fun ls hl => ?_)
        refine lv_iconst (v := 2) hx hb dL_marchFinds_32 (by decide) ?_
        have hP9 := hP.sub (ws' := [(h0, .inl (g 1, 1, .inr (.inl (fun _ => 0))))]) [0] rfl
        have hD9 := hD.sub (ws' := [(h0, .inl (g 1, 1, .inr (.inl (fun _ => 0))))]) [0] (by decide) rfl
        refine W.widen (k := 1) (n := 6) (Nat.le_of_ble_eq_true rfl) (Nat.le_of_ble_eq_true rfl) ?_
        exact W.iret (v := 2) hx hb hr (fun t ht9 hW9 => ⟨⟨2, (), rfl, (Or.inr ⟨rfl, (Or.inr (Or.inr (Or.inr (Or.inr (Or.inr (Or.inr (Or.inl ⟨c_243, c_244, c_245, c_246, c_247, c_248, c_249, c_250, c_251, c_252, c_253, c_254⟩)))))))⟩), ⟨(by rw [ht9]; exact hP9), hD9⟩⟩, hS.F ht9⟩) hS.2.2 dL_marchFinds_33 hlocks
      · obtain ⟨c_255, c_256, c_257, c_258, c_259, c_260, c_261, c_262, c_263, c_264, c_265, c_266, c_267⟩ := hB
        refine vx_catch hown [⟨0, 23, 26, 24⟩] ⟨0, 23, 30, 13⟩ [] (htab.trans rfl) (List.forall_mem_cons.mpr ⟨Or.inr ⟨by decide, "java/lang/IllegalArgumentException", ht _ w_540, hK.2.2.2.2.1 _ (List.mem_of_getElem? (i := 12) rfl)⟩, (fun _ h9 => absurd h9 List.not_mem_nil)⟩) (by decide) (by decide) (ht _ w_554) (hK.2.2.use w_555) hcell hv9 hcl ?_
        refine W.eq (g2 := F0 m 30 ls [.ref q9]) rfl ?_
        refine lv_astore (lv' := [(7, .ref q9), (0, .ref (a 0)), (1, .int p0), (2, .int p1), (3, .int p2), (4, .int p3), (5, .int p4), (6, .ref h0)]) hx hb dL_marchFinds_30 hl (by decide) rfl (fun ls hl => ?_)
        refine lv_iconst (v := 2) hx hb dL_marchFinds_32 (by decide) ?_
        have hP9 := hP.sub (ws' := [(h0, .inl (g 1, 1, .inr (.inl (fun _ => 0))))]) [0] rfl
        have hD9 := hD.sub (ws' := [(h0, .inl (g 1, 1, .inr (.inl (fun _ => 0))))]) [0] (by decide) rfl
        refine W.widen (k := 1) (n := 6) (Nat.le_of_ble_eq_true rfl) (Nat.le_of_ble_eq_true rfl) ?_
        exact W.iret (v := 2) hx hb hr (fun t ht9 hW9 => ⟨⟨2, (), rfl, (Or.inr ⟨rfl, (Or.inr (Or.inr (Or.inr (Or.inr (Or.inr (Or.inr (Or.inr (Or.inl ⟨c_255, c_256, c_257, c_258, c_259, c_260, c_261, c_262, c_263, c_264, c_265, c_266, c_267⟩))))))))⟩), ⟨(by rw [ht9]; exact hP9), hD9⟩⟩, hS.F ht9⟩) hS.2.2 dL_marchFinds_33 hlocks
      · obtain ⟨c_268, c_269, c_270, c_271, c_272, c_273, c_274, c_275, c_276, c_277, c_278⟩ := hB
        refine vx_catch hown [⟨0, 23, 26, 24⟩] ⟨0, 23, 30, 13⟩ [] (htab.trans rfl) (List.forall_mem_cons.mpr ⟨Or.inr ⟨by decide, "java/lang/IllegalArgumentException", ht _ w_540, hK.2.2.2.2.1 _ (List.mem_of_getElem? (i := 12) rfl)⟩, (fun _ h9 => absurd h9 List.not_mem_nil)⟩) (by decide) (by decide) (ht _ w_554) (hK.2.2.use w_555) hcell hv9 hcl ?_
        refine W.eq (g2 := F0 m 30 ls [.ref q9]) rfl ?_
        refine lv_astore (lv' := [(7, .ref q9), (0, .ref (a 0)), (1, .int p0), (2, .int p1), (3, .int p2), (4, .int p3), (5, .int p4), (6, .ref h0)]) hx hb dL_marchFinds_30 hl (by decide) rfl (fun ls hl => ?_)
        refine lv_iconst (v := 2) hx hb dL_marchFinds_32 (by decide) ?_
        have hP9 := hP.sub (ws' := [(h0, .inl (g 1, 1, .inr (.inl (fun _ => 0))))]) [0] rfl
        have hD9 := hD.sub (ws' := [(h0, .inl (g 1, 1, .inr (.inl (fun _ => 0))))]) [0] (by decide) rfl
        refine W.widen (k := 1) (n := 6) (Nat.le_of_ble_eq_true rfl) (Nat.le_of_ble_eq_true rfl) ?_
        exact W.iret (v := 2) hx hb hr (fun t ht9 hW9 => ⟨⟨2, (), rfl, (Or.inr ⟨rfl, (Or.inr (Or.inr (Or.inr (Or.inr (Or.inr (Or.inr (Or.inr (Or.inr (Or.inl ⟨c_268, c_269, c_270, c_271, c_272, c_273, c_274, c_275, c_276, c_277, c_278⟩)))))))))⟩), ⟨(by rw [ht9]; exact hP9), hD9⟩⟩, hS.F ht9⟩) hS.2.2 dL_marchFinds_33 hlocks
      · obtain ⟨c_279, c_280, c_281, c_282, c_283, c_284, c_285, c_286, c_287, c_288, c_289, c_290⟩ := hB
        refine vx_catch hown [⟨0, 23, 26, 24⟩] ⟨0, 23, 30, 13⟩ [] (htab.trans rfl) (List.forall_mem_cons.mpr ⟨Or.inr ⟨by decide, "java/lang/IllegalArgumentException", ht _ w_540, hK.2.2.2.2.1 _ (List.mem_of_getElem? (i := 12) rfl)⟩, (fun _ h9 => absurd h9 List.not_mem_nil)⟩) (by decide) (by decide) (ht _ w_554) (hK.2.2.use w_555) hcell hv9 hcl ?_
        refine W.eq (g2 := F0 m 30 ls [.ref q9]) rfl ?_
        refine lv_astore (lv' := [(7, .ref q9), (0, .ref (a 0)), (1, .int p0), (2, .int p1), (3, .int p2), (4, .int p3), (5, .int p4), (6, .ref h0)]) hx hb dL_marchFinds_30 hl (by decide) rfl (fun ls hl => ?_)
        refine lv_iconst (v := 2) hx hb dL_marchFinds_32 (by decide) ?_
        have hP9 := hP.sub (ws' := [(h0, .inl (g 1, 1, .inr (.inl (fun _ => 0))))]) [0] rfl
        have hD9 := hD.sub (ws' := [(h0, .inl (g 1, 1, .inr (.inl (fun _ => 0))))]) [0] (by decide) rfl
        refine W.widen (k := 1) (n := 6) (Nat.le_of_ble_eq_true rfl) (Nat.le_of_ble_eq_true rfl) ?_
        exact W.iret (v := 2) hx hb hr (fun t ht9 hW9 => ⟨⟨2, (), rfl, (Or.inr ⟨rfl, (Or.inr (Or.inr (Or.inr (Or.inr (Or.inr (Or.inr (Or.inr (Or.inr (Or.inr (Or.inl ⟨c_279, c_280, c_281, c_282, c_283, c_284, c_285, c_286, c_287, c_288, c_289, c_290⟩))))))))))⟩), ⟨(by rw [ht9]; exact hP9), hD9⟩⟩, hS.F ht9⟩) hS.2.2 dL_marchFinds_33 hlocks
      · obtain ⟨c_291, c_292, c_293, c_294, c_295, c_296, c_297, c_298, c_299, c_300⟩ := hB
        refine vx_catch hown [⟨0, 23, 26, 24⟩] ⟨0, 23, 30, 13⟩ [] (htab.trans rfl) (List.forall_mem_cons.mpr ⟨Or.inr ⟨by decide, "java/lang/IllegalArgumentException", ht _ w_540, hK.2.2.2.2.1 _ (List.mem_of_getElem? (i := 12) rfl)⟩, (fun _ h9 => absurd h9 List.not_mem_nil)⟩) (by decide) (by decide) (ht _ w_554) (hK.2.2.use w_555) hcell hv9 hcl ?_
        refine W.eq (g2 := F0 m 30 ls [.ref q9]) rfl ?_
        refine lv_astore (lv' := [(7, .ref q9), (0, .ref (a 0)), (1, .int p0), (2, .int p1), (3, .int p2), (4, .int p3), (5, .int p4), (6, .ref h0)]) hx hb dL_marchFinds_30 hl (by decide) rfl (fun ls hl => ?_)
        refine lv_iconst (v := 2) hx hb dL_marchFinds_32 (by decide) ?_
        have hP9 := hP.sub (ws' := [(h0, .inl (g 1, 1, .inr (.inl (fun _ => 0))))]) [0] rfl
        have hD9 := hD.sub (ws' := [(h0, .inl (g 1, 1, .inr (.inl (fun _ => 0))))]) [0] (by decide) rfl
        refine W.widen (k := 1) (n := 6) (Nat.le_of_ble_eq_true rfl) (Nat.le_of_ble_eq_true rfl) ?_
        exact W.iret (v := 2) hx hb hr (fun t ht9 hW9 => ⟨⟨2, (), rfl, (Or.inr ⟨rfl, (Or.inr (Or.inr (Or.inr (Or.inr (Or.inr (Or.inr (Or.inr (Or.inr (Or.inr (Or.inr ⟨c_291, c_292, c_293, c_294, c_295, c_296, c_297, c_298, c_299, c_300⟩))))))))))⟩), ⟨(by rw [ht9]; exact hP9), hD9⟩⟩, hS.F ht9⟩) hS.2.2 dL_marchFinds_33 hlocks
  · exact hw.elim
set_option maxHeartbeats 4000000 in
set_option maxRecDepth 100000 in
theorem k_L_meanFound (l : Launch) (hfl : l.stackTraces = false) (D : va_G) (g : Nat → ClassId) (z0 sz : Nat) (a : Nat → Nat) (h0 : Nat) : Met l yL_meanFound (.codeWith yL_meanFound cL_meanFound 3 (some .int) [(0, 7, 10, 81)] :: TG) (rmk 7 1 6 104) (va_Pc [.ref (a 0), .ref h0] (PP D g z0 sz [(h0, .inl (g 4, 1, .inr (.inr (.inr (.inl (fun _ => 0)))))), ((a 0), f_x a), ((a 2), f_book a)])) (va_Qi (fun (r : Int32) (u : Unit) => (r = 1) ∧ True) (fun (u : Unit) (t : State) => va_P D vwCl [(h0, .inl (g 4, 1, .inr (.inr (.inr (.inl (fun _ => 0))))))] t.heap ∧ va_D (va_A [(h0, .inl (g 4, 1, .inr (.inr (.inr (.inl (fun _ => 0)))))), ((a 0), f_x a), ((a 2), f_book a)] sz) [(h0, .inl (g 4, 1, .inr (.inr (.inr (.inl (fun _ => 0))))))]) (va_A [(h0, .inl (g 4, 1, .inr (.inr (.inr (.inl (fun _ => 0)))))), ((a 0), f_x a), ((a 2), f_book a)] sz)) 1 6 (va_A [(h0, .inl (g 4, 1, .inr (.inr (.inr (.inl (fun _ => 0)))))), ((a 0), f_x a), ((a 2), f_book a)] sz) := by
  refine metW0 (cc := cL_meanFound) (n := 3) (hh := [(0, 7, 10, 81)]) (by decide) (Nat.le_of_ble_eq_true rfl) ?_
  intro p e s m args below meth c hx hb hr hml htab hown ht hlocks hnm hP0 hD0 hK hZ hsz hz ls hl
  subst hsz
  have hA : ∀ q : Nat, s.heap.size ≤ q → va_A [(h0, .inl (g 4, 1, .inr (.inr (.inr (.inl (fun _ => 0)))))), ((a 0), f_x a), ((a 2), f_book a)] s.heap.size q := Anw
  have hAz : ∀ q, va_A [(h0, .inl (g 4, 1, .inr (.inr (.inr (.inl (fun _ => 0)))))), ((a 0), f_x a), ((a 2), f_book a)] s.heap.size q → z0 ≤ q := Awz hz hD0
  have hS : va_S (va_A [(h0, .inl (g 4, 1, .inr (.inr (.inr (.inl (fun _ => 0)))))), ((a 0), f_x a), ((a 2), f_book a)] s.heap.size) s.heap s.heap [] := va_S.rf
  have hD : va_D (va_A [(h0, .inl (g 4, 1, .inr (.inr (.inr (.inl (fun _ => 0)))))), ((a 0), f_x a), ((a 2), f_book a)] s.heap.size) [(h0, .inl (g 4, 1, .inr (.inr (.inr (.inl (fun _ => 0)))))), ((a 0), f_x a), ((a 2), f_book a)] := hD0.self
  have hP : va_P D vwCl [(h0, .inl (g 4, 1, .inr (.inr (.inr (.inl (fun _ => 0)))))), ((a 0), f_x a), ((a 2), f_book a)] s.heap := hP0
  have hl : lv_has ls 3 [(0, .ref (a 0)), (1, .ref h0)] := hl
  refine lv_aload_n hx hb dL_meanFound_0 rfl (lv_at hl 1 rfl) ?_
  refine lv_iconst (v := 0) hx hb dL_meanFound_1 (by decide) ?_
  refine lv_aload_n hx hb dL_meanFound_2 rfl (lv_at hl 0 rfl) ?_
  have hPc : va_P D vwCl [((a 0), f_x a), ((a 2), f_book a)] _ := hP.sub (ws' := [((a 0), f_x a), ((a 2), f_book a)]) [1, 2] rfl
  have hDc : va_D (fun q => z0 ≤ q) [((a 0), f_x a), ((a 2), f_book a)] := (hD.to hAz).pick (ws' := [((a 0), f_x a), ((a 2), f_book a)]) [1, 2] (by decide) rfl
  have hFc := AnA (ws := [(h0, .inl (g 4, 1, .inr (.inr (.inr (.inl (fun _ => 0)))))), ((a 0), f_x a), ((a 2), f_book a)]) hS.1
  refine vx_calld (vx_runV (As := []) (rest := [.int 0, .ref h0]) ⟨hx, hb, hml, hown, ht⟩ (k_X11_meanFound l hfl D g z0 _ a) (cwV 0 ht (gV w_668 w_670 w_671 w_31 w_669) rfl rfl rfl (by decide +kernel) (le2 rfl rfl)) ⟨PP.blind, va_recv hK.1 hP (ci := 17) (q0 := 1) rfl rfl, PP.mk' hK hZ hz hAz hS hPc hDc⟩ rfl rfl hl.1 rfl (lv_room (Nat.le_of_ble_eq_true rfl)) dL_meanFound_3 (le2 rfl rfl)) hS (fun q _ h => hFc q h) hFc (fun q _ h => hFc q h) (fun E ce q9 u t H locs ht1 hvm hw hB hz1 hk1 hS hcell hv9 hcl => ?_) (fun r u t H locs ht1 hvm hw hB hz1 hk1 hS => ?_)
  · have hP := ro1 hP hk1
    obtain ⟨rfl, hB⟩ := hB
    refine vx_catch hown [] ⟨0, 7, 10, 81⟩ [] (htab.trans rfl) (fun _ h9 => absurd h9 List.not_mem_nil) (by decide) (by decide) (ht _ w_590) (hK.2.2.use w_591) hcell hv9 hcl ?_
    refine W.eq (g2 := F0 m 10 ls [.ref q9]) rfl ?_
    refine lv_astore_n (lv' := [(2, .ref q9), (0, .ref (a 0)), (1, .ref h0)]) hx hb dL_meanFound_10 rfl hl (by decide) rfl (fun ls hl => ?_)
    refine lv_iconst (v := 1) hx hb dL_meanFound_11 (by decide) ?_
    have hP9 := hP.sub (ws' := [(h0, .inl (g 4, 1, .inr (.inr (.inr (.inl (fun _ => 0))))))]) [0] rfl
    have hD9 := hD.sub (ws' := [(h0, .inl (g 4, 1, .inr (.inr (.inr (.inl (fun _ => 0))))))]) [0] (by decide) rfl
    refine W.widen (k := 1) (n := 6) (Nat.le_of_ble_eq_true rfl) (Nat.le_of_ble_eq_true rfl) ?_
    exact W.iret (v := 1) hx hb hr (fun t ht9 hW9 => ⟨⟨1, (), rfl, ⟨rfl, trivial⟩, ⟨(by rw [ht9]; exact hP9), hD9⟩⟩, hS.F ht9⟩) hS.2.2 dL_meanFound_12 hlocks
  · exact hw.elim
set_option maxHeartbeats 4000000 in
set_option maxRecDepth 100000 in
theorem k_L_merge (l : Launch) (hfl : l.stackTraces = false) (D : va_G) (g : Nat → ClassId) (z0 sz : Nat) (a : Nat → Nat) (p0 : Int32) (p1 : Int32) (h0 : Nat) : Met l yL_merge (.codeWith yL_merge cL_merge 5 (some .int) [(0, 10, 13, 26), (0, 10, 17, 13)] :: TG) (rmk 8 1 6 124) (va_Pc [.ref (a 0), .int p0, .int p1, .ref h0] (PP D g z0 sz [(h0, .inl (g 1, 1, .inr (.inl (fun _ => 0)))), ((a 0), f_x a), ((a 3), f_rows a)])) (va_Qi (fun (r : Int32) (u : Unit) => (r = 1) ∧ True) (fun (u : Unit) (t : State) => va_P D vwCl [(h0, .inl (g 1, 1, .inr (.inl (fun _ => 0))))] t.heap ∧ va_D (va_A [(h0, .inl (g 1, 1, .inr (.inl (fun _ => 0)))), ((a 0), f_x a), ((a 3), f_rows a)] sz) [(h0, .inl (g 1, 1, .inr (.inl (fun _ => 0))))]) (va_A [(h0, .inl (g 1, 1, .inr (.inl (fun _ => 0)))), ((a 0), f_x a), ((a 3), f_rows a)] sz)) 1 6 (va_A [(h0, .inl (g 1, 1, .inr (.inl (fun _ => 0)))), ((a 0), f_x a), ((a 3), f_rows a)] sz) := by
  refine metW0 (cc := cL_merge) (n := 5) (hh := [(0, 10, 13, 26), (0, 10, 17, 13)]) (by decide) (Nat.le_of_ble_eq_true rfl) ?_
  intro p e s m args below meth c hx hb hr hml htab hown ht hlocks hnm hP0 hD0 hK hZ hsz hz ls hl
  subst hsz
  have hA : ∀ q : Nat, s.heap.size ≤ q → va_A [(h0, .inl (g 1, 1, .inr (.inl (fun _ => 0)))), ((a 0), f_x a), ((a 3), f_rows a)] s.heap.size q := Anw
  have hAz : ∀ q, va_A [(h0, .inl (g 1, 1, .inr (.inl (fun _ => 0)))), ((a 0), f_x a), ((a 3), f_rows a)] s.heap.size q → z0 ≤ q := Awz hz hD0
  have hS : va_S (va_A [(h0, .inl (g 1, 1, .inr (.inl (fun _ => 0)))), ((a 0), f_x a), ((a 3), f_rows a)] s.heap.size) s.heap s.heap [] := va_S.rf
  have hD : va_D (va_A [(h0, .inl (g 1, 1, .inr (.inl (fun _ => 0)))), ((a 0), f_x a), ((a 3), f_rows a)] s.heap.size) [(h0, .inl (g 1, 1, .inr (.inl (fun _ => 0)))), ((a 0), f_x a), ((a 3), f_rows a)] := hD0.self
  have hP : va_P D vwCl [(h0, .inl (g 1, 1, .inr (.inl (fun _ => 0)))), ((a 0), f_x a), ((a 3), f_rows a)] s.heap := hP0
  have hl : lv_has ls 5 [(0, .ref (a 0)), (1, .int p0), (2, .int p1), (3, .ref h0)] := hl
  refine lv_aload_n hx hb dL_merge_0 rfl (lv_at hl 3 rfl) ?_
  refine lv_iconst (v := 0) hx hb dL_merge_1 (by decide) ?_
  refine lv_aload_n hx hb dL_merge_2 rfl (lv_at hl 0 rfl) ?_
  refine lv_iload_n hx hb dL_merge_3 rfl (lv_at hl 1 rfl) ?_
  refine lv_iload_n hx hb dL_merge_4 rfl (lv_at hl 2 rfl) ?_
  have hPc : va_P D vwCl [((a 0), f_x a), ((a 3), f_rows a)] _ := hP.sub (ws' := [((a 0), f_x a), ((a 3), f_rows a)]) [1, 2] rfl
  have hDc : va_D (fun q => z0 ≤ q) [((a 0), f_x a), ((a 3), f_rows a)] := (hD.to hAz).pick (ws' := [((a 0), f_x a), ((a 3), f_rows a)]) [1, 2] (by decide) rfl
  have hFc := AnA (ws := [(h0, .inl (g 1, 1, .inr (.inl (fun _ => 0)))), ((a 0), f_x a), ((a 3), f_rows a)]) hS.1
  refine vx_calli (vx_runV (As := [.int p0, .int p1]) (rest := [.int 0, .ref h0]) ⟨hx, hb, hml, hown, ht⟩ (k_X11_merge l hfl D g z0 _ a p0 p1) (cwV 2 ht (gV w_672 w_674 w_675 w_31 w_673) rfl rfl rfl (by decide +kernel) (le2 rfl rfl)) ⟨PP.blind, va_recv hK.1 hP (ci := 17) (q0 := 1) rfl rfl, PP.mk' hK hZ hz hAz hS hPc hDc⟩ rfl rfl hl.1 rfl (lv_room (Nat.le_of_ble_eq_true rfl)) dL_merge_5 (le2 rfl rfl)) hS (fun q _ h => hFc q h) hFc (fun q _ h => hFc q h) (fun E ce q9 u t H locs ht1 hvm hw hB hz1 hk1 hS hcell hv9 hcl => ?_) (fun r u t H locs ht1 hvm hw hB hz1 hk1 hS => ?_)
  · have hP := ro1 hP hk1
    obtain ⟨rfl, hB⟩ := hB
    refine vx_catch hown [] ⟨0, 10, 13, 26⟩ [⟨0, 10, 17, 13⟩] (htab.trans rfl) (fun _ h9 => absurd h9 List.not_mem_nil) (by decide) (by decide) (ht _ w_534) (hK.2.2.use w_535) hcell hv9 hcl ?_
    refine W.eq (g2 := F0 m 13 ls [.ref q9]) rfl ?_
    refine lv_astore (lv' := [(4, .ref q9), (0, .ref (a 0)), (1, .int p0), (2, .int p1), (3, .ref h0)]) hx hb dL_merge_13 hl (by decide) rfl (fun ls hl => ?_)
    refine lv_iconst (v := 1) hx hb dL_merge_15 (by decide) ?_
    have hP9 := hP.sub (ws' := [(h0, .inl (g 1, 1, .inr (.inl (fun _ => 0))))]) [0] rfl
    have hD9 := hD.sub (ws' := [(h0, .inl (g 1, 1, .inr (.inl (fun _ => 0))))]) [0] (by decide) rfl
    refine W.widen (k := 1) (n := 6) (Nat.le_of_ble_eq_true rfl) (Nat.le_of_ble_eq_true rfl) ?_
    exact W.iret (v := 1) hx hb hr (fun t ht9 hW9 => ⟨⟨1, (), rfl, ⟨rfl, trivial⟩, ⟨(by rw [ht9]; exact hP9), hD9⟩⟩, hS.F ht9⟩) hS.2.2 dL_merge_16 hlocks
  · exact hw.elim
set_option maxHeartbeats 4000000 in
set_option maxRecDepth 100000 in
theorem k_L_openWire (l : Launch) (hfl : l.stackTraces = false) (D : va_G) (g : Nat → ClassId) (z0 sz : Nat) (a : Nat → Nat) (p0 : Int32) (p1 : Int32) (h0 : Nat) : Met l yL_openWire (.codeWith yL_openWire cL_openWire 5 (some .int) [(0, 17, 20, 26), (0, 17, 24, 24)] :: TG) (rmk 8 1 6 125) (va_Pc [.ref (a 0), .int p0, .int p1, .ref h0] (PP D g z0 sz [(h0, .inl (g 1, 1, .inr (.inl (fun _ => 0)))), ((a 0), f_x a), ((a 10), f_wires a)])) (va_Qi (fun (r : Int32) (u : Unit) => (r = 1) ∧ True) (fun (u : Unit) (t : State) => va_P D vwCl [(h0, .inl (g 1, 1, .inr (.inl (fun _ => 0))))] t.heap ∧ va_D (va_A [(h0, .inl (g 1, 1, .inr (.inl (fun _ => 0)))), ((a 0), f_x a), ((a 10), f_wires a)] sz) [(h0, .inl (g 1, 1, .inr (.inl (fun _ => 0))))]) (va_A [(h0, .inl (g 1, 1, .inr (.inl (fun _ => 0)))), ((a 0), f_x a), ((a 10), f_wires a)] sz)) 1 6 (va_A [(h0, .inl (g 1, 1, .inr (.inl (fun _ => 0)))), ((a 0), f_x a), ((a 10), f_wires a)] sz) := by
  refine metW0 (cc := cL_openWire) (n := 5) (hh := [(0, 17, 20, 26), (0, 17, 24, 24)]) (by decide) (Nat.le_of_ble_eq_true rfl) ?_
  intro p e s m args below meth c hx hb hr hml htab hown ht hlocks hnm hP0 hD0 hK hZ hsz hz ls hl
  subst hsz
  have hA : ∀ q : Nat, s.heap.size ≤ q → va_A [(h0, .inl (g 1, 1, .inr (.inl (fun _ => 0)))), ((a 0), f_x a), ((a 10), f_wires a)] s.heap.size q := Anw
  have hAz : ∀ q, va_A [(h0, .inl (g 1, 1, .inr (.inl (fun _ => 0)))), ((a 0), f_x a), ((a 10), f_wires a)] s.heap.size q → z0 ≤ q := Awz hz hD0
  have hS : va_S (va_A [(h0, .inl (g 1, 1, .inr (.inl (fun _ => 0)))), ((a 0), f_x a), ((a 10), f_wires a)] s.heap.size) s.heap s.heap [] := va_S.rf
  have hD : va_D (va_A [(h0, .inl (g 1, 1, .inr (.inl (fun _ => 0)))), ((a 0), f_x a), ((a 10), f_wires a)] s.heap.size) [(h0, .inl (g 1, 1, .inr (.inl (fun _ => 0)))), ((a 0), f_x a), ((a 10), f_wires a)] := hD0.self
  have hP : va_P D vwCl [(h0, .inl (g 1, 1, .inr (.inl (fun _ => 0)))), ((a 0), f_x a), ((a 10), f_wires a)] s.heap := hP0
  have hl : lv_has ls 5 [(0, .ref (a 0)), (1, .int p0), (2, .int p1), (3, .ref h0)] := hl
  refine lv_aload_n hx hb dL_openWire_0 rfl (lv_at hl 3 rfl) ?_
  refine lv_iconst (v := 0) hx hb dL_openWire_1 (by decide) ?_
  refine lv_aload_n hx hb dL_openWire_2 rfl (lv_at hl 0 rfl) ?_
  refine lv_iload_n hx hb dL_openWire_3 rfl (lv_at hl 1 rfl) ?_
  refine lv_iload_n hx hb dL_openWire_4 rfl (lv_at hl 2 rfl) ?_
  have hPc : va_P D vwCl [((a 0), f_x a), ((a 10), f_wires a)] _ := hP.sub (ws' := [((a 0), f_x a), ((a 10), f_wires a)]) [1, 2] rfl
  have hDc : va_D (fun q => z0 ≤ q) [((a 0), f_x a), ((a 10), f_wires a)] := (hD.to hAz).pick (ws' := [((a 0), f_x a), ((a 10), f_wires a)]) [1, 2] (by decide) rfl
  have hFc := AnA (ws := [(h0, .inl (g 1, 1, .inr (.inl (fun _ => 0)))), ((a 0), f_x a), ((a 10), f_wires a)]) hS.1
  refine vx_calli (vx_runV (As := [.int p0, .int p1]) (rest := [.int 0, .ref h0]) ⟨hx, hb, hml, hown, ht⟩ (k_X11_openWire l hfl D g z0 _ a p0 p1) (cwV 2 ht (gV w_676 w_678 w_679 w_31 w_677) rfl rfl rfl (by decide +kernel) (le2 rfl rfl)) ⟨PP.blind, va_recv hK.1 hP (ci := 17) (q0 := 1) rfl rfl, PP.mk' hK hZ hz hAz hS hPc hDc⟩ rfl rfl hl.1 rfl (lv_room (Nat.le_of_ble_eq_true rfl)) dL_openWire_5 (le2 rfl rfl)) hS (fun q _ h => hFc q h) hFc (fun q _ h => hFc q h) (fun E ce q9 u t H locs ht1 hvm hw hB hz1 hk1 hS hcell hv9 hcl => ?_) (fun r u t H locs ht1 hvm hw hB hz1 hk1 hS => ?_)
  · have hP := ro1 hP hk1
    obtain ⟨rfl, hB⟩ := hB
    refine vx_catch hown [] ⟨0, 17, 20, 26⟩ [⟨0, 17, 24, 24⟩] (htab.trans rfl) (fun _ h9 => absurd h9 List.not_mem_nil) (by decide) (by decide) (ht _ w_534) (hK.2.2.use w_535) hcell hv9 hcl ?_
    refine W.eq (g2 := F0 m 20 ls [.ref q9]) rfl ?_
    refine lv_astore (lv' := [(4, .ref q9), (0, .ref (a 0)), (1, .int p0), (2, .int p1), (3, .ref h0)]) hx hb dL_openWire_20 hl (by decide) rfl (fun ls hl => ?_)
    refine lv_iconst (v := 1) hx hb dL_openWire_22 (by decide) ?_
    have hP9 := hP.sub (ws' := [(h0, .inl (g 1, 1, .inr (.inl (fun _ => 0))))]) [0] rfl
    have hD9 := hD.sub (ws' := [(h0, .inl (g 1, 1, .inr (.inl (fun _ => 0))))]) [0] (by decide) rfl
    refine W.widen (k := 1) (n := 6) (Nat.le_of_ble_eq_true rfl) (Nat.le_of_ble_eq_true rfl) ?_
    exact W.iret (v := 1) hx hb hr (fun t ht9 hW9 => ⟨⟨1, (), rfl, ⟨rfl, trivial⟩, ⟨(by rw [ht9]; exact hP9), hD9⟩⟩, hS.F ht9⟩) hS.2.2 dL_openWire_23 hlocks
  · exact hw.elim
set_option maxHeartbeats 4000000 in
set_option maxRecDepth 100000 in
theorem k_L_orderAt (l : Launch) (hfl : l.stackTraces = false) (D : va_G) (g : Nat → ClassId) (z0 sz : Nat) (a : Nat → Nat) (p0 : Int32) (h0 : Nat) : Met l yL_orderAt (.codeWith yL_orderAt cL_orderAt 4 (some .int) [(0, 9, 12, 86)] :: TG) (rmk 7 1 6 102) (va_Pc [.ref (a 0), .int p0, .ref h0] (PP D g z0 sz [(h0, .inl (g 1, 1, .inr (.inl (fun _ => 0)))), ((a 0), f_x a), ((a 3), f_rows a)])) (va_Qi (fun (r : Int32) (u : Unit) => (r = 1) ∧ True) (fun (u : Unit) (t : State) => va_P D vwCl [(h0, .inl (g 1, 1, .inr (.inl (fun _ => 0))))] t.heap ∧ va_D (va_A [(h0, .inl (g 1, 1, .inr (.inl (fun _ => 0)))), ((a 0), f_x a), ((a 3), f_rows a)] sz) [(h0, .inl (g 1, 1, .inr (.inl (fun _ => 0))))]) (va_A [(h0, .inl (g 1, 1, .inr (.inl (fun _ => 0)))), ((a 0), f_x a), ((a 3), f_rows a)] sz)) 1 6 (va_A [(h0, .inl (g 1, 1, .inr (.inl (fun _ => 0)))), ((a 0), f_x a), ((a 3), f_rows a)] sz) := by
  refine metW0 (cc := cL_orderAt) (n := 4) (hh := [(0, 9, 12, 86)]) (by decide) (Nat.le_of_ble_eq_true rfl) ?_
  intro p e s m args below meth c hx hb hr hml htab hown ht hlocks hnm hP0 hD0 hK hZ hsz hz ls hl
  subst hsz
  have hA : ∀ q : Nat, s.heap.size ≤ q → va_A [(h0, .inl (g 1, 1, .inr (.inl (fun _ => 0)))), ((a 0), f_x a), ((a 3), f_rows a)] s.heap.size q := Anw
  have hAz : ∀ q, va_A [(h0, .inl (g 1, 1, .inr (.inl (fun _ => 0)))), ((a 0), f_x a), ((a 3), f_rows a)] s.heap.size q → z0 ≤ q := Awz hz hD0
  have hS : va_S (va_A [(h0, .inl (g 1, 1, .inr (.inl (fun _ => 0)))), ((a 0), f_x a), ((a 3), f_rows a)] s.heap.size) s.heap s.heap [] := va_S.rf
  have hD : va_D (va_A [(h0, .inl (g 1, 1, .inr (.inl (fun _ => 0)))), ((a 0), f_x a), ((a 3), f_rows a)] s.heap.size) [(h0, .inl (g 1, 1, .inr (.inl (fun _ => 0)))), ((a 0), f_x a), ((a 3), f_rows a)] := hD0.self
  have hP : va_P D vwCl [(h0, .inl (g 1, 1, .inr (.inl (fun _ => 0)))), ((a 0), f_x a), ((a 3), f_rows a)] s.heap := hP0
  have hl : lv_has ls 4 [(0, .ref (a 0)), (1, .int p0), (2, .ref h0)] := hl
  refine lv_aload_n hx hb dL_orderAt_0 rfl (lv_at hl 2 rfl) ?_
  refine lv_iconst (v := 0) hx hb dL_orderAt_1 (by decide) ?_
  refine lv_aload_n hx hb dL_orderAt_2 rfl (lv_at hl 0 rfl) ?_
  refine lv_iload_n hx hb dL_orderAt_3 rfl (lv_at hl 1 rfl) ?_
  have hPc : va_P D vwCl [((a 0), f_x a), ((a 3), f_rows a)] _ := hP.sub (ws' := [((a 0), f_x a), ((a 3), f_rows a)]) [1, 2] rfl
  have hDc : va_D (fun q => z0 ≤ q) [((a 0), f_x a), ((a 3), f_rows a)] := (hD.to hAz).pick (ws' := [((a 0), f_x a), ((a 3), f_rows a)]) [1, 2] (by decide) rfl
  have hFc := AnA (ws := [(h0, .inl (g 1, 1, .inr (.inl (fun _ => 0)))), ((a 0), f_x a), ((a 3), f_rows a)]) hS.1
  refine vx_calli (vx_runV (As := [.int p0]) (rest := [.int 0, .ref h0]) ⟨hx, hb, hml, hown, ht⟩ (k_X11_orderAt l hfl D g z0 _ a p0) (cwV 1 ht (gV w_680 w_682 w_683 w_31 w_681) rfl rfl rfl (by decide +kernel) (le2 rfl rfl)) ⟨PP.blind, va_recv hK.1 hP (ci := 17) (q0 := 1) rfl rfl, PP.mk' hK hZ hz hAz hS hPc hDc⟩ rfl rfl hl.1 rfl (lv_room (Nat.le_of_ble_eq_true rfl)) dL_orderAt_4 (le2 rfl rfl)) hS (fun q _ h => hFc q h) hFc (fun q _ h => hFc q h) (fun E ce q9 u t H locs ht1 hvm hw hB hz1 hk1 hS hcell hv9 hcl => ?_) (fun r u t H locs ht1 hvm hw hB hz1 hk1 hS => ?_)
  · have hP := ro1 hP hk1
    obtain ⟨rfl, hB⟩ := hB
    refine vx_catch hown [] ⟨0, 9, 12, 86⟩ [] (htab.trans rfl) (fun _ h9 => absurd h9 List.not_mem_nil) (by decide) (by decide) (ht _ w_568) (hK.2.2.use w_569) hcell hv9 hcl ?_
    refine W.eq (g2 := F0 m 12 ls [.ref q9]) rfl ?_
    refine lv_astore_n (lv' := [(3, .ref q9), (0, .ref (a 0)), (1, .int p0), (2, .ref h0)]) hx hb dL_orderAt_12 rfl hl (by decide) rfl (fun ls hl => ?_)
    refine lv_iconst (v := 1) hx hb dL_orderAt_13 (by decide) ?_
    have hP9 := hP.sub (ws' := [(h0, .inl (g 1, 1, .inr (.inl (fun _ => 0))))]) [0] rfl
    have hD9 := hD.sub (ws' := [(h0, .inl (g 1, 1, .inr (.inl (fun _ => 0))))]) [0] (by decide) rfl
    refine W.widen (k := 1) (n := 6) (Nat.le_of_ble_eq_true rfl) (Nat.le_of_ble_eq_true rfl) ?_
    exact W.iret (v := 1) hx hb hr (fun t ht9 hW9 => ⟨⟨1, (), rfl, ⟨rfl, trivial⟩, ⟨(by rw [ht9]; exact hP9), hD9⟩⟩, hS.F ht9⟩) hS.2.2 dL_orderAt_14 hlocks
  · exact hw.elim
set_option maxHeartbeats 4000000 in
set_option maxRecDepth 100000 in
theorem k_L_output (l : Launch) (hfl : l.stackTraces = false) (D : va_G) (g : Nat → ClassId) (z0 sz : Nat) (a : Nat → Nat) (p0 : Int32) (h0 : Nat) : Met l yL_output (.codeWith yL_output cL_output 4 (some .int) [(0, 16, 19, 26), (0, 16, 22, 13)] :: TG) (rmk 8 1 6 124) (va_Pc [.ref (a 0), .int p0, .ref h0] (PP D g z0 sz [(h0, .inl (g 1, 1, .inr (.inl (fun _ => 0)))), ((a 0), f_x a), ((a 1), f_net a)])) (va_Qi (fun (r : Int32) (u : Unit) => (r = 1) ∧ True) (fun (u : Unit) (t : State) => va_P D vwCl [(h0, .inl (g 1, 1, .inr (.inl (fun _ => 0))))] t.heap ∧ va_D (va_A [(h0, .inl (g 1, 1, .inr (.inl (fun _ => 0)))), ((a 0), f_x a), ((a 1), f_net a)] sz) [(h0, .inl (g 1, 1, .inr (.inl (fun _ => 0))))]) (va_A [(h0, .inl (g 1, 1, .inr (.inl (fun _ => 0)))), ((a 0), f_x a), ((a 1), f_net a)] sz)) 1 6 (va_A [(h0, .inl (g 1, 1, .inr (.inl (fun _ => 0)))), ((a 0), f_x a), ((a 1), f_net a)] sz) := by
  refine metW0 (cc := cL_output) (n := 4) (hh := [(0, 16, 19, 26), (0, 16, 22, 13)]) (by decide) (Nat.le_of_ble_eq_true rfl) ?_
  intro p e s m args below meth c hx hb hr hml htab hown ht hlocks hnm hP0 hD0 hK hZ hsz hz ls hl
  subst hsz
  have hA : ∀ q : Nat, s.heap.size ≤ q → va_A [(h0, .inl (g 1, 1, .inr (.inl (fun _ => 0)))), ((a 0), f_x a), ((a 1), f_net a)] s.heap.size q := Anw
  have hAz : ∀ q, va_A [(h0, .inl (g 1, 1, .inr (.inl (fun _ => 0)))), ((a 0), f_x a), ((a 1), f_net a)] s.heap.size q → z0 ≤ q := Awz hz hD0
  have hS : va_S (va_A [(h0, .inl (g 1, 1, .inr (.inl (fun _ => 0)))), ((a 0), f_x a), ((a 1), f_net a)] s.heap.size) s.heap s.heap [] := va_S.rf
  have hD : va_D (va_A [(h0, .inl (g 1, 1, .inr (.inl (fun _ => 0)))), ((a 0), f_x a), ((a 1), f_net a)] s.heap.size) [(h0, .inl (g 1, 1, .inr (.inl (fun _ => 0)))), ((a 0), f_x a), ((a 1), f_net a)] := hD0.self
  have hP : va_P D vwCl [(h0, .inl (g 1, 1, .inr (.inl (fun _ => 0)))), ((a 0), f_x a), ((a 1), f_net a)] s.heap := hP0
  have hl : lv_has ls 4 [(0, .ref (a 0)), (1, .int p0), (2, .ref h0)] := hl
  refine lv_aload_n hx hb dL_output_0 rfl (lv_at hl 2 rfl) ?_
  refine lv_iconst (v := 0) hx hb dL_output_1 (by decide) ?_
  refine lv_aload_n hx hb dL_output_2 rfl (lv_at hl 0 rfl) ?_
  refine lv_iload_n hx hb dL_output_3 rfl (lv_at hl 1 rfl) ?_
  have hPc : va_P D vwCl [((a 0), f_x a), ((a 1), f_net a)] _ := hP.sub (ws' := [((a 0), f_x a), ((a 1), f_net a)]) [1, 2] rfl
  have hDc : va_D (fun q => z0 ≤ q) [((a 0), f_x a), ((a 1), f_net a)] := (hD.to hAz).pick (ws' := [((a 0), f_x a), ((a 1), f_net a)]) [1, 2] (by decide) rfl
  have hFc := AnA (ws := [(h0, .inl (g 1, 1, .inr (.inl (fun _ => 0)))), ((a 0), f_x a), ((a 1), f_net a)]) hS.1
  refine vx_calli (vx_runV (As := [.int p0]) (rest := [.int 0, .ref h0]) ⟨hx, hb, hml, hown, ht⟩ (k_X11_output l hfl D g z0 _ a p0) (cwV 1 ht (gV w_684 w_686 w_687 w_31 w_685) rfl rfl rfl (by decide +kernel) (le2 rfl rfl)) ⟨PP.blind, va_recv hK.1 hP (ci := 17) (q0 := 1) rfl rfl, PP.mk' hK hZ hz hAz hS hPc hDc⟩ rfl rfl hl.1 rfl (lv_room (Nat.le_of_ble_eq_true rfl)) dL_output_4 (le2 rfl rfl)) hS (fun q _ h => hFc q h) hFc (fun q _ h => hFc q h) (fun E ce q9 u t H locs ht1 hvm hw hB hz1 hk1 hS hcell hv9 hcl => ?_) (fun r u t H locs ht1 hvm hw hB hz1 hk1 hS => ?_)
  · have hP := ro1 hP hk1
    obtain ⟨rfl, hB⟩ := hB
    refine vx_catch hown [] ⟨0, 16, 19, 26⟩ [⟨0, 16, 22, 13⟩] (htab.trans rfl) (fun _ h9 => absurd h9 List.not_mem_nil) (by decide) (by decide) (ht _ w_534) (hK.2.2.use w_535) hcell hv9 hcl ?_
    refine W.eq (g2 := F0 m 19 ls [.ref q9]) rfl ?_
    refine lv_astore_n (lv' := [(3, .ref q9), (0, .ref (a 0)), (1, .int p0), (2, .ref h0)]) hx hb dL_output_19 rfl hl (by decide) rfl (fun ls hl => ?_)
    refine lv_iconst (v := 1) hx hb dL_output_20 (by decide) ?_
    have hP9 := hP.sub (ws' := [(h0, .inl (g 1, 1, .inr (.inl (fun _ => 0))))]) [0] rfl
    have hD9 := hD.sub (ws' := [(h0, .inl (g 1, 1, .inr (.inl (fun _ => 0))))]) [0] (by decide) rfl
    refine W.widen (k := 1) (n := 6) (Nat.le_of_ble_eq_true rfl) (Nat.le_of_ble_eq_true rfl) ?_
    exact W.iret (v := 1) hx hb hr (fun t ht9 hW9 => ⟨⟨1, (), rfl, ⟨rfl, trivial⟩, ⟨(by rw [ht9]; exact hP9), hD9⟩⟩, hS.F ht9⟩) hS.2.2 dL_output_21 hlocks
  · exact hw.elim
set_option maxHeartbeats 4000000 in
set_option maxRecDepth 100000 in
theorem k_L_pattern (l : Launch) (hfl : l.stackTraces = false) (D : va_G) (g : Nat → ClassId) (z0 sz : Nat) (a : Nat → Nat) (p0 : Int32) (p1 : Int32) (h0 : Nat) : Met l yL_pattern (.codeWith yL_pattern cL_pattern 5 (some .int) [(0, 10, 13, 24), (0, 10, 17, 13), (0, 10, 21, 15)] :: TG) (rmk 8 1 6 123) (va_Pc [.ref (a 0), .int p0, .int p1, .ref h0] (PP D g z0 sz [(h0, .inl (g 1, 1, .inr (.inl (fun _ => 0)))), ((a 0), f_x a), ((a 1), f_net a)])) (va_Qi (fun (r : Int32) (u : Unit) => ((r = 1) ∧ ((¬ p0 = 0) ∨ ((p0 = 0) ∧ (¬ (p1 &&& (p0 ^^^ (-1))) = 0)))) ∨ ((r = 2) ∧ ((p0 = 0) ∧ ((p1 &&& (p0 ^^^ (-1))) = 0) ∧ (p1 = 0)))) (fun (u : Unit) (t : State) => va_P D vwCl [(h0, .inl (g 1, 1, .inr (.inl (fun _ => 0))))] t.heap ∧ va_D (va_A [(h0, .inl (g 1, 1, .inr (.inl (fun _ => 0)))), ((a 0), f_x a), ((a 1), f_net a)] sz) [(h0, .inl (g 1, 1, .inr (.inl (fun _ => 0))))]) (va_A [(h0, .inl (g 1, 1, .inr (.inl (fun _ => 0)))), ((a 0), f_x a), ((a 1), f_net a)] sz)) 1 6 (va_A [(h0, .inl (g 1, 1, .inr (.inl (fun _ => 0)))), ((a 0), f_x a), ((a 1), f_net a)] sz) := by
  refine metW0 (cc := cL_pattern) (n := 5) (hh := [(0, 10, 13, 24), (0, 10, 17, 13), (0, 10, 21, 15)]) (by decide) (Nat.le_of_ble_eq_true rfl) ?_
  intro p e s m args below meth c hx hb hr hml htab hown ht hlocks hnm hP0 hD0 hK hZ hsz hz ls hl
  subst hsz
  have hA : ∀ q : Nat, s.heap.size ≤ q → va_A [(h0, .inl (g 1, 1, .inr (.inl (fun _ => 0)))), ((a 0), f_x a), ((a 1), f_net a)] s.heap.size q := Anw
  have hAz : ∀ q, va_A [(h0, .inl (g 1, 1, .inr (.inl (fun _ => 0)))), ((a 0), f_x a), ((a 1), f_net a)] s.heap.size q → z0 ≤ q := Awz hz hD0
  have hS : va_S (va_A [(h0, .inl (g 1, 1, .inr (.inl (fun _ => 0)))), ((a 0), f_x a), ((a 1), f_net a)] s.heap.size) s.heap s.heap [] := va_S.rf
  have hD : va_D (va_A [(h0, .inl (g 1, 1, .inr (.inl (fun _ => 0)))), ((a 0), f_x a), ((a 1), f_net a)] s.heap.size) [(h0, .inl (g 1, 1, .inr (.inl (fun _ => 0)))), ((a 0), f_x a), ((a 1), f_net a)] := hD0.self
  have hP : va_P D vwCl [(h0, .inl (g 1, 1, .inr (.inl (fun _ => 0)))), ((a 0), f_x a), ((a 1), f_net a)] s.heap := hP0
  have hl : lv_has ls 5 [(0, .ref (a 0)), (1, .int p0), (2, .int p1), (3, .ref h0)] := hl
  refine lv_aload_n hx hb dL_pattern_0 rfl (lv_at hl 3 rfl) ?_
  refine lv_iconst (v := 0) hx hb dL_pattern_1 (by decide) ?_
  refine lv_aload_n hx hb dL_pattern_2 rfl (lv_at hl 0 rfl) ?_
  refine lv_iload_n hx hb dL_pattern_3 rfl (lv_at hl 1 rfl) ?_
  refine lv_iload_n hx hb dL_pattern_4 rfl (lv_at hl 2 rfl) ?_
  have hPc : va_P D vwCl [((a 0), f_x a), ((a 1), f_net a)] _ := hP.sub (ws' := [((a 0), f_x a), ((a 1), f_net a)]) [1, 2] rfl
  have hDc : va_D (fun q => z0 ≤ q) [((a 0), f_x a), ((a 1), f_net a)] := (hD.to hAz).pick (ws' := [((a 0), f_x a), ((a 1), f_net a)]) [1, 2] (by decide) rfl
  have hFc := AnA (ws := [(h0, .inl (g 1, 1, .inr (.inl (fun _ => 0)))), ((a 0), f_x a), ((a 1), f_net a)]) hS.1
  refine vx_calli (vx_runV (As := [.int p0, .int p1]) (rest := [.int 0, .ref h0]) ⟨hx, hb, hml, hown, ht⟩ (k_X11_pattern l hfl D g z0 _ a p0 p1) (cwV 2 ht (gV w_688 w_690 w_691 w_31 w_689) rfl rfl rfl (by decide +kernel) (le2 rfl rfl)) ⟨PP.blind, va_recv hK.1 hP (ci := 17) (q0 := 1) rfl rfl, PP.mk' hK hZ hz hAz hS hPc hDc⟩ rfl rfl hl.1 rfl (lv_room (Nat.le_of_ble_eq_true rfl)) dL_pattern_5 (le2 rfl rfl)) hS (fun q _ h => hFc q h) hFc (fun q _ h => hFc q h) (fun E ce q9 u t H locs ht1 hvm hw hB hz1 hk1 hS hcell hv9 hcl => ?_) (fun r u t H locs ht1 hvm hw hB hz1 hk1 hS => ?_)
  · have hP := ro1 hP hk1
    rcases hB with hB | hB
    · obtain ⟨rfl, hB⟩ := hB
      rcases hB with hB | hB
      · have c_1 := hB
        refine vx_catch hown [] ⟨0, 10, 13, 24⟩ [⟨0, 10, 17, 13⟩, ⟨0, 10, 21, 15⟩] (htab.trans rfl) (fun _ h9 => absurd h9 List.not_mem_nil) (by decide) (by decide) (ht _ w_540) (hK.2.2.use w_541) hcell hv9 hcl ?_
        refine W.eq (g2 := F0 m 13 ls [.ref q9]) rfl ?_
        refine lv_astore (lv' := [(4, .ref q9), (0, .ref (a 0)), (1, .int p0), (2, .int p1), (3, .ref h0)]) hx hb dL_pattern_13 hl (by decide) rfl (fun ls hl => ?_)
        refine lv_iconst (v := 1) hx hb dL_pattern_15 (by decide) ?_
        have hP9 := hP.sub (ws' := [(h0, .inl (g 1, 1, .inr (.inl (fun _ => 0))))]) [0] rfl
        have hD9 := hD.sub (ws' := [(h0, .inl (g 1, 1, .inr (.inl (fun _ => 0))))]) [0] (by decide) rfl
        refine W.widen (k := 1) (n := 6) (Nat.le_of_ble_eq_true rfl) (Nat.le_of_ble_eq_true rfl) ?_
        exact W.iret (v := 1) hx hb hr (fun t ht9 hW9 => ⟨⟨1, (), rfl, (Or.inl ⟨rfl, (Or.inl c_1)⟩), ⟨(by rw [ht9]; exact hP9), hD9⟩⟩, hS.F ht9⟩) hS.2.2 dL_pattern_16 hlocks
      · obtain ⟨c_2, c_3⟩ := hB
        refine vx_catch hown [] ⟨0, 10, 13, 24⟩ [⟨0, 10, 17, 13⟩, ⟨0, 10, 21, 15⟩] (htab.trans rfl) (fun _ h9 => absurd h9 List.not_mem_nil) (by decide) (by decide) (ht _ w_540) (hK.2.2.use w_541) hcell hv9 hcl ?_
        refine W.eq (g2 := F0 m 13 ls [.ref q9]) rfl ?_
        refine lv_astore (lv' := [(4, .ref q9), (0, .ref (a 0)), (1, .int p0), (2, .int p1), (3, .ref h0)]) hx hb dL_pattern_13 hl (by decide) rfl (fun ls hl => ?_)
        refine lv_iconst (v := 1) hx hb dL_pattern_15 (by decide) ?_
        have hP9 := hP.sub (ws' := [(h0, .inl (g 1, 1, .inr (.inl (fun _ => 0))))]) [0] rfl
        have hD9 := hD.sub (ws' := [(h0, .inl (g 1, 1, .inr (.inl (fun _ => 0))))]) [0] (by decide) rfl
        refine W.widen (k := 1) (n := 6) (Nat.le_of_ble_eq_true rfl) (Nat.le_of_ble_eq_true rfl) ?_
        exact W.iret (v := 1) hx hb hr (fun t ht9 hW9 => ⟨⟨1, (), rfl, (Or.inl ⟨rfl, (Or.inr ⟨c_2, c_3⟩)⟩), ⟨(by rw [ht9]; exact hP9), hD9⟩⟩, hS.F ht9⟩) hS.2.2 dL_pattern_16 hlocks
    · obtain ⟨rfl, hB⟩ := hB
      obtain ⟨c_4, c_5, c_6⟩ := hB
      refine vx_catch hown [⟨0, 10, 13, 24⟩] ⟨0, 10, 17, 13⟩ [⟨0, 10, 21, 15⟩] (htab.trans rfl) (List.forall_mem_cons.mpr ⟨Or.inr ⟨by decide, "java/lang/IllegalArgumentException", ht _ w_540, hK.2.2.2.2.1 _ (List.mem_of_getElem? (i := 12) rfl)⟩, (fun _ h9 => absurd h9 List.not_mem_nil)⟩) (by decide) (by decide) (ht _ w_554) (hK.2.2.use w_555) hcell hv9 hcl ?_
      refine W.eq (g2 := F0 m 17 ls [.ref q9]) rfl ?_
      refine lv_astore (lv' := [(4, .ref q9), (0, .ref (a 0)), (1, .int p0), (2, .int p1), (3, .ref h0)]) hx hb dL_pattern_17 hl (by decide) rfl (fun ls hl => ?_)
      refine lv_iconst (v := 2) hx hb dL_pattern_19 (by decide) ?_
      have hP9 := hP.sub (ws' := [(h0, .inl (g 1, 1, .inr (.inl (fun _ => 0))))]) [0] rfl
      have hD9 := hD.sub (ws' := [(h0, .inl (g 1, 1, .inr (.inl (fun _ => 0))))]) [0] (by decide) rfl
      refine W.widen (k := 1) (n := 6) (Nat.le_of_ble_eq_true rfl) (Nat.le_of_ble_eq_true rfl) ?_
      exact W.iret (v := 2) hx hb hr (fun t ht9 hW9 => ⟨⟨2, (), rfl, (Or.inr ⟨rfl, ⟨c_4, c_5, (ones0 c_4 c_5)⟩⟩), ⟨(by rw [ht9]; exact hP9), hD9⟩⟩, hS.F ht9⟩) hS.2.2 dL_pattern_20 hlocks
  · exact hw.elim
set_option maxHeartbeats 4000000 in
set_option maxRecDepth 100000 in
theorem k_L_pinOf (l : Launch) (hfl : l.stackTraces = false) (D : va_G) (g : Nat → ClassId) (z0 sz : Nat) (a : Nat → Nat) (p0 : Int32) (h0 : Nat) : Met l yL_pinOf (.codeWith yL_pinOf cL_pinOf 4 (some .int) [(0, 9, 12, 26)] :: TG) (rmk 8 1 6 123) (va_Pc [.ref (a 0), .int p0, .ref h0] (PP D g z0 sz [(h0, .inl (g 1, 1, .inr (.inl (fun _ => 0)))), ((a 0), f_x a), ((a 2), f_book a)])) (va_Qi (fun (r : Int32) (u : Unit) => (r = 1) ∧ True) (fun (u : Unit) (t : State) => va_P D vwCl [(h0, .inl (g 1, 1, .inr (.inl (fun _ => 0))))] t.heap ∧ va_D (va_A [(h0, .inl (g 1, 1, .inr (.inl (fun _ => 0)))), ((a 0), f_x a), ((a 2), f_book a)] sz) [(h0, .inl (g 1, 1, .inr (.inl (fun _ => 0))))]) (va_A [(h0, .inl (g 1, 1, .inr (.inl (fun _ => 0)))), ((a 0), f_x a), ((a 2), f_book a)] sz)) 1 6 (va_A [(h0, .inl (g 1, 1, .inr (.inl (fun _ => 0)))), ((a 0), f_x a), ((a 2), f_book a)] sz) := by
  refine metW0 (cc := cL_pinOf) (n := 4) (hh := [(0, 9, 12, 26)]) (by decide) (Nat.le_of_ble_eq_true rfl) ?_
  intro p e s m args below meth c hx hb hr hml htab hown ht hlocks hnm hP0 hD0 hK hZ hsz hz ls hl
  subst hsz
  have hA : ∀ q : Nat, s.heap.size ≤ q → va_A [(h0, .inl (g 1, 1, .inr (.inl (fun _ => 0)))), ((a 0), f_x a), ((a 2), f_book a)] s.heap.size q := Anw
  have hAz : ∀ q, va_A [(h0, .inl (g 1, 1, .inr (.inl (fun _ => 0)))), ((a 0), f_x a), ((a 2), f_book a)] s.heap.size q → z0 ≤ q := Awz hz hD0
  have hS : va_S (va_A [(h0, .inl (g 1, 1, .inr (.inl (fun _ => 0)))), ((a 0), f_x a), ((a 2), f_book a)] s.heap.size) s.heap s.heap [] := va_S.rf
  have hD : va_D (va_A [(h0, .inl (g 1, 1, .inr (.inl (fun _ => 0)))), ((a 0), f_x a), ((a 2), f_book a)] s.heap.size) [(h0, .inl (g 1, 1, .inr (.inl (fun _ => 0)))), ((a 0), f_x a), ((a 2), f_book a)] := hD0.self
  have hP : va_P D vwCl [(h0, .inl (g 1, 1, .inr (.inl (fun _ => 0)))), ((a 0), f_x a), ((a 2), f_book a)] s.heap := hP0
  have hl : lv_has ls 4 [(0, .ref (a 0)), (1, .int p0), (2, .ref h0)] := hl
  refine lv_aload_n hx hb dL_pinOf_0 rfl (lv_at hl 2 rfl) ?_
  refine lv_iconst (v := 0) hx hb dL_pinOf_1 (by decide) ?_
  refine lv_aload_n hx hb dL_pinOf_2 rfl (lv_at hl 0 rfl) ?_
  refine lv_iload_n hx hb dL_pinOf_3 rfl (lv_at hl 1 rfl) ?_
  have hPc : va_P D vwCl [((a 0), f_x a), ((a 2), f_book a)] _ := hP.sub (ws' := [((a 0), f_x a), ((a 2), f_book a)]) [1, 2] rfl
  have hDc : va_D (fun q => z0 ≤ q) [((a 0), f_x a), ((a 2), f_book a)] := (hD.to hAz).pick (ws' := [((a 0), f_x a), ((a 2), f_book a)]) [1, 2] (by decide) rfl
  have hFc := AnA (ws := [(h0, .inl (g 1, 1, .inr (.inl (fun _ => 0)))), ((a 0), f_x a), ((a 2), f_book a)]) hS.1
  refine vx_calli (vx_runV (As := [.int p0]) (rest := [.int 0, .ref h0]) ⟨hx, hb, hml, hown, ht⟩ (k_X11_pinOf l hfl D g z0 _ a p0) (cwV 1 ht (gV w_692 w_694 w_695 w_31 w_693) rfl rfl rfl (by decide +kernel) (le2 rfl rfl)) ⟨PP.blind, va_recv hK.1 hP (ci := 17) (q0 := 1) rfl rfl, PP.mk' hK hZ hz hAz hS hPc hDc⟩ rfl rfl hl.1 rfl (lv_room (Nat.le_of_ble_eq_true rfl)) dL_pinOf_4 (le2 rfl rfl)) hS (fun q _ h => hFc q h) hFc (fun q _ h => hFc q h) (fun E ce q9 u t H locs ht1 hvm hw hB hz1 hk1 hS hcell hv9 hcl => ?_) (fun r u t H locs ht1 hvm hw hB hz1 hk1 hS => ?_)
  · have hP := ro1 hP hk1
    obtain ⟨rfl, hB⟩ := hB
    refine vx_catch hown [] ⟨0, 9, 12, 26⟩ [] (htab.trans rfl) (fun _ h9 => absurd h9 List.not_mem_nil) (by decide) (by decide) (ht _ w_534) (hK.2.2.use w_535) hcell hv9 hcl ?_
    refine W.eq (g2 := F0 m 12 ls [.ref q9]) rfl ?_
    refine lv_astore_n (lv' := [(3, .ref q9), (0, .ref (a 0)), (1, .int p0), (2, .ref h0)]) hx hb dL_pinOf_12 rfl hl (by decide) rfl (fun ls hl => ?_)
    refine lv_iconst (v := 1) hx hb dL_pinOf_13 (by decide) ?_
    have hP9 := hP.sub (ws' := [(h0, .inl (g 1, 1, .inr (.inl (fun _ => 0))))]) [0] rfl
    have hD9 := hD.sub (ws' := [(h0, .inl (g 1, 1, .inr (.inl (fun _ => 0))))]) [0] (by decide) rfl
    refine W.widen (k := 1) (n := 6) (Nat.le_of_ble_eq_true rfl) (Nat.le_of_ble_eq_true rfl) ?_
    exact W.iret (v := 1) hx hb hr (fun t ht9 hW9 => ⟨⟨1, (), rfl, ⟨rfl, trivial⟩, ⟨(by rw [ht9]; exact hP9), hD9⟩⟩, hS.F ht9⟩) hS.2.2 dL_pinOf_14 hlocks
  · exact hw.elim
set_option maxHeartbeats 4000000 in
set_option maxRecDepth 100000 in
theorem k_L_power (l : Launch) (hfl : l.stackTraces = false) (D : va_G) (g : Nat → ClassId) (z0 sz : Nat) (a : Nat → Nat) (p0 : Int32) (h0 : Nat) : Met l yL_power (.codeWith yL_power cL_power 4 (some .int) [(0, 9, 12, 26)] :: TG) (rmk 8 1 6 123) (va_Pc [.ref (a 0), .int p0, .ref h0] (PP D g z0 sz [(h0, .inl (g 1, 1, .inr (.inl (fun _ => 0)))), ((a 0), f_x a), ((a 3), f_rows a)])) (va_Qi (fun (r : Int32) (u : Unit) => (r = 1) ∧ True) (fun (u : Unit) (t : State) => va_P D vwCl [(h0, .inl (g 1, 1, .inr (.inl (fun _ => 0))))] t.heap ∧ va_D (va_A [(h0, .inl (g 1, 1, .inr (.inl (fun _ => 0)))), ((a 0), f_x a), ((a 3), f_rows a)] sz) [(h0, .inl (g 1, 1, .inr (.inl (fun _ => 0))))]) (va_A [(h0, .inl (g 1, 1, .inr (.inl (fun _ => 0)))), ((a 0), f_x a), ((a 3), f_rows a)] sz)) 1 6 (va_A [(h0, .inl (g 1, 1, .inr (.inl (fun _ => 0)))), ((a 0), f_x a), ((a 3), f_rows a)] sz) := by
  refine metW0 (cc := cL_power) (n := 4) (hh := [(0, 9, 12, 26)]) (by decide) (Nat.le_of_ble_eq_true rfl) ?_
  intro p e s m args below meth c hx hb hr hml htab hown ht hlocks hnm hP0 hD0 hK hZ hsz hz ls hl
  subst hsz
  have hA : ∀ q : Nat, s.heap.size ≤ q → va_A [(h0, .inl (g 1, 1, .inr (.inl (fun _ => 0)))), ((a 0), f_x a), ((a 3), f_rows a)] s.heap.size q := Anw
  have hAz : ∀ q, va_A [(h0, .inl (g 1, 1, .inr (.inl (fun _ => 0)))), ((a 0), f_x a), ((a 3), f_rows a)] s.heap.size q → z0 ≤ q := Awz hz hD0
  have hS : va_S (va_A [(h0, .inl (g 1, 1, .inr (.inl (fun _ => 0)))), ((a 0), f_x a), ((a 3), f_rows a)] s.heap.size) s.heap s.heap [] := va_S.rf
  have hD : va_D (va_A [(h0, .inl (g 1, 1, .inr (.inl (fun _ => 0)))), ((a 0), f_x a), ((a 3), f_rows a)] s.heap.size) [(h0, .inl (g 1, 1, .inr (.inl (fun _ => 0)))), ((a 0), f_x a), ((a 3), f_rows a)] := hD0.self
  have hP : va_P D vwCl [(h0, .inl (g 1, 1, .inr (.inl (fun _ => 0)))), ((a 0), f_x a), ((a 3), f_rows a)] s.heap := hP0
  have hl : lv_has ls 4 [(0, .ref (a 0)), (1, .int p0), (2, .ref h0)] := hl
  refine lv_aload_n hx hb dL_power_0 rfl (lv_at hl 2 rfl) ?_
  refine lv_iconst (v := 0) hx hb dL_power_1 (by decide) ?_
  refine lv_aload_n hx hb dL_power_2 rfl (lv_at hl 0 rfl) ?_
  refine lv_iload_n hx hb dL_power_3 rfl (lv_at hl 1 rfl) ?_
  have hPc : va_P D vwCl [((a 0), f_x a), ((a 3), f_rows a)] _ := hP.sub (ws' := [((a 0), f_x a), ((a 3), f_rows a)]) [1, 2] rfl
  have hDc : va_D (fun q => z0 ≤ q) [((a 0), f_x a), ((a 3), f_rows a)] := (hD.to hAz).pick (ws' := [((a 0), f_x a), ((a 3), f_rows a)]) [1, 2] (by decide) rfl
  have hFc := AnA (ws := [(h0, .inl (g 1, 1, .inr (.inl (fun _ => 0)))), ((a 0), f_x a), ((a 3), f_rows a)]) hS.1
  refine vx_calli (vx_runV (As := [.int p0]) (rest := [.int 0, .ref h0]) ⟨hx, hb, hml, hown, ht⟩ (k_X11_power l hfl D g z0 _ a p0) (cwV 1 ht (gV w_696 w_698 w_699 w_31 w_697) rfl rfl rfl (by decide +kernel) (le2 rfl rfl)) ⟨PP.blind, va_recv hK.1 hP (ci := 17) (q0 := 1) rfl rfl, PP.mk' hK hZ hz hAz hS hPc hDc⟩ rfl rfl hl.1 rfl (lv_room (Nat.le_of_ble_eq_true rfl)) dL_power_4 (le2 rfl rfl)) hS (fun q _ h => hFc q h) hFc (fun q _ h => hFc q h) (fun E ce q9 u t H locs ht1 hvm hw hB hz1 hk1 hS hcell hv9 hcl => ?_) (fun r u t H locs ht1 hvm hw hB hz1 hk1 hS => ?_)
  · have hP := ro1 hP hk1
    obtain ⟨rfl, hB⟩ := hB
    refine vx_catch hown [] ⟨0, 9, 12, 26⟩ [] (htab.trans rfl) (fun _ h9 => absurd h9 List.not_mem_nil) (by decide) (by decide) (ht _ w_534) (hK.2.2.use w_535) hcell hv9 hcl ?_
    refine W.eq (g2 := F0 m 12 ls [.ref q9]) rfl ?_
    refine lv_astore_n (lv' := [(3, .ref q9), (0, .ref (a 0)), (1, .int p0), (2, .ref h0)]) hx hb dL_power_12 rfl hl (by decide) rfl (fun ls hl => ?_)
    refine lv_iconst (v := 1) hx hb dL_power_13 (by decide) ?_
    have hP9 := hP.sub (ws' := [(h0, .inl (g 1, 1, .inr (.inl (fun _ => 0))))]) [0] rfl
    have hD9 := hD.sub (ws' := [(h0, .inl (g 1, 1, .inr (.inl (fun _ => 0))))]) [0] (by decide) rfl
    refine W.widen (k := 1) (n := 6) (Nat.le_of_ble_eq_true rfl) (Nat.le_of_ble_eq_true rfl) ?_
    exact W.iret (v := 1) hx hb hr (fun t ht9 hW9 => ⟨⟨1, (), rfl, ⟨rfl, trivial⟩, ⟨(by rw [ht9]; exact hP9), hD9⟩⟩, hS.F ht9⟩) hS.2.2 dL_power_14 hlocks
  · exact hw.elim
