theorem w_764 : Cond.methodLink RL 215 yL_input ∈ TG := tg (sg_5 _ (List.mem_of_getElem? (i := 41) (by decide +kernel))) (by decide +kernel)
theorem w_765 : Cond.codeWith yL_input cL_input 3 (some .int) [(0, 8, 11, 13), (0, 8, 14, 15)] ∈ TG := tg (sg_5 _ (List.mem_of_getElem? (i := 43) (by decide +kernel))) (by decide +kernel)
theorem w_766 : Cond.static yL_input ∈ TG := tg (sg_5 _ (List.mem_of_getElem? (i := 42) (by decide +kernel))) (by decide +kernel)
theorem w_767 : Cond.initialized RL ∈ TG := tg (sg_1 _ (List.mem_of_getElem? (i := 0) (by decide +kernel))) (by decide +kernel)
theorem w_768 : Cond.methodLink RL 220 yX15_input ∈ TG := tg (sg_9 _ (List.mem_of_getElem? (i := 201) (by decide +kernel))) (by decide +kernel)
theorem w_769 : Cond.code yX15_input cX15_input 1 (some .int) ∈ TG := tg (sg_9 _ (List.mem_of_getElem? (i := 204) (by decide +kernel))) (by decide +kernel)
theorem w_770 : Cond.instanceMethod yX15_input ∈ TG := tg (sg_9 _ (List.mem_of_getElem? (i := 202) (by decide +kernel))) (by decide +kernel)
theorem w_771 : Cond.selects RX15 yX15_input yX15_input ∈ TG := tg (sg_9 _ (List.mem_of_getElem? (i := 203) (by decide +kernel))) (by decide +kernel)
theorem w_772 : Cond.methodLink RL 221 yX15_thrown ∈ TG := tg (sg_9 _ (List.mem_of_getElem? (i := 68) (by decide +kernel))) (by decide +kernel)
theorem w_773 : Cond.code yX15_thrown cX15_thrown 1 (some .int) ∈ TG := tg (sg_9 _ (List.mem_of_getElem? (i := 71) (by decide +kernel))) (by decide +kernel)
theorem w_774 : Cond.instanceMethod yX15_thrown ∈ TG := tg (sg_9 _ (List.mem_of_getElem? (i := 69) (by decide +kernel))) (by decide +kernel)
theorem w_775 : Cond.selects RX15 yX15_thrown yX15_thrown ∈ TG := tg (sg_9 _ (List.mem_of_getElem? (i := 70) (by decide +kernel))) (by decide +kernel)
theorem w_776 : Cond.methodLink RL 224 yL_cell ∈ TG := tg (sg_5 _ (List.mem_of_getElem? (i := 145) (by decide +kernel))) (by decide +kernel)
theorem w_777 : Cond.codeWith yL_cell cL_cell 3 (some .int) [(0, 8, 11, 13), (0, 8, 14, 15)] ∈ TG := tg (sg_5 _ (List.mem_of_getElem? (i := 147) (by decide +kernel))) (by decide +kernel)
theorem w_778 : Cond.static yL_cell ∈ TG := tg (sg_5 _ (List.mem_of_getElem? (i := 146) (by decide +kernel))) (by decide +kernel)
theorem w_779 : Cond.methodLink RL 226 yX15_cell ∈ TG := tg (sg_10 _ (List.mem_of_getElem? (i := 113) (by decide +kernel))) (by decide +kernel)
theorem w_780 : Cond.code yX15_cell cX15_cell 1 (some .int) ∈ TG := tg (sg_10 _ (List.mem_of_getElem? (i := 116) (by decide +kernel))) (by decide +kernel)
theorem w_781 : Cond.instanceMethod yX15_cell ∈ TG := tg (sg_10 _ (List.mem_of_getElem? (i := 114) (by decide +kernel))) (by decide +kernel)
theorem w_782 : Cond.selects RX15 yX15_cell yX15_cell ∈ TG := tg (sg_10 _ (List.mem_of_getElem? (i := 115) (by decide +kernel))) (by decide +kernel)
theorem w_783 : Cond.methodLink RL 227 yL_gate ∈ TG := tg (sg_5 _ (List.mem_of_getElem? (i := 152) (by decide +kernel))) (by decide +kernel)
theorem w_784 : Cond.codeWith yL_gate cL_gate 6 (some .int) [(0, 12, 15, 24), (0, 12, 19, 26), (0, 12, 23, 13), (0, 12, 27, 15)] ∈ TG := tg (sg_5 _ (List.mem_of_getElem? (i := 154) (by decide +kernel))) (by decide +kernel)
theorem w_785 : Cond.static yL_gate ∈ TG := tg (sg_5 _ (List.mem_of_getElem? (i := 153) (by decide +kernel))) (by decide +kernel)
theorem w_786 : Cond.methodLink RL 230 yX15_gate ∈ TG := tg (sg_10 _ (List.mem_of_getElem? (i := 117) (by decide +kernel))) (by decide +kernel)
theorem w_787 : Cond.code yX15_gate cX15_gate 6 (some .int) ∈ TG := tg (sg_10 _ (List.mem_of_getElem? (i := 120) (by decide +kernel))) (by decide +kernel)
theorem w_788 : Cond.instanceMethod yX15_gate ∈ TG := tg (sg_10 _ (List.mem_of_getElem? (i := 118) (by decide +kernel))) (by decide +kernel)
theorem w_789 : Cond.selects RX15 yX15_gate yX15_gate ∈ TG := tg (sg_10 _ (List.mem_of_getElem? (i := 119) (by decide +kernel))) (by decide +kernel)
theorem w_790 : Cond.methodLink RL 231 yL_data ∈ TG := tg (sg_5 _ (List.mem_of_getElem? (i := 232) (by decide +kernel))) (by decide +kernel)
theorem w_791 : Cond.codeWith yL_data cL_data 5 (some .int) [(0, 10, 13, 26), (0, 10, 17, 13)] ∈ TG := tg (sg_5 _ (List.mem_of_getElem? (i := 234) (by decide +kernel))) (by decide +kernel)
theorem w_792 : Cond.static yL_data ∈ TG := tg (sg_5 _ (List.mem_of_getElem? (i := 233) (by decide +kernel))) (by decide +kernel)
theorem w_793 : Cond.methodLink RL 234 yX15_data ∈ TG := tg (sg_10 _ (List.mem_of_getElem? (i := 211) (by decide +kernel))) (by decide +kernel)
theorem w_794 : Cond.code yX15_data cX15_data 4 (some .int) ∈ TG := tg (sg_10 _ (List.mem_of_getElem? (i := 214) (by decide +kernel))) (by decide +kernel)
theorem w_795 : Cond.instanceMethod yX15_data ∈ TG := tg (sg_10 _ (List.mem_of_getElem? (i := 212) (by decide +kernel))) (by decide +kernel)
theorem w_796 : Cond.selects RX15 yX15_data yX15_data ∈ TG := tg (sg_10 _ (List.mem_of_getElem? (i := 213) (by decide +kernel))) (by decide +kernel)
theorem w_797 : Cond.methodLink RL 235 yL_output ∈ TG := tg (sg_5 _ (List.mem_of_getElem? (i := 239) (by decide +kernel))) (by decide +kernel)
theorem w_798 : Cond.codeWith yL_output cL_output 4 (some .int) [(0, 16, 19, 26), (0, 16, 22, 13)] ∈ TG := tg (sg_6 _ (List.mem_of_getElem? (i := 1) (by decide +kernel))) (by decide +kernel)
theorem w_799 : Cond.static yL_output ∈ TG := tg (sg_6 _ (List.mem_of_getElem? (i := 0) (by decide +kernel))) (by decide +kernel)
theorem w_800 : Cond.methodLink RL 238 yX15_output ∈ TG := tg (sg_10 _ (List.mem_of_getElem? (i := 234) (by decide +kernel))) (by decide +kernel)
theorem w_801 : Cond.code yX15_output cX15_output 3 (some .boolean) ∈ TG := tg (sg_10 _ (List.mem_of_getElem? (i := 237) (by decide +kernel))) (by decide +kernel)
theorem w_802 : Cond.instanceMethod yX15_output ∈ TG := tg (sg_10 _ (List.mem_of_getElem? (i := 235) (by decide +kernel))) (by decide +kernel)
theorem w_803 : Cond.selects RX15 yX15_output yX15_output ∈ TG := tg (sg_10 _ (List.mem_of_getElem? (i := 236) (by decide +kernel))) (by decide +kernel)
theorem w_804 : Cond.methodLink RL 239 yL_close ∈ TG := tg (sg_6 _ (List.mem_of_getElem? (i := 6) (by decide +kernel))) (by decide +kernel)
theorem w_805 : Cond.codeWith yL_close cL_close 3 (some .int) [(0, 8, 11, 13)] ∈ TG := tg (sg_6 _ (List.mem_of_getElem? (i := 8) (by decide +kernel))) (by decide +kernel)
theorem w_806 : Cond.static yL_close ∈ TG := tg (sg_6 _ (List.mem_of_getElem? (i := 7) (by decide +kernel))) (by decide +kernel)
theorem w_807 : Cond.methodLink RL 241 yX15_close ∈ TG := tg (sg_10 _ (List.mem_of_getElem? (i := 238) (by decide +kernel))) (by decide +kernel)
theorem w_808 : Cond.code yX15_close cX15_close 7 (some .int) ∈ TG := tg (sg_11 _ (List.mem_of_getElem? (i := 1) (by decide +kernel))) (by decide +kernel)
theorem w_809 : Cond.instanceMethod yX15_close ∈ TG := tg (sg_10 _ (List.mem_of_getElem? (i := 239) (by decide +kernel))) (by decide +kernel)
theorem w_810 : Cond.selects RX15 yX15_close yX15_close ∈ TG := tg (sg_11 _ (List.mem_of_getElem? (i := 0) (by decide +kernel))) (by decide +kernel)
theorem w_811 : Cond.methodLink RL 242 yL_testPoint ∈ TG := tg (sg_6 _ (List.mem_of_getElem? (i := 66) (by decide +kernel))) (by decide +kernel)
theorem w_812 : Cond.codeWith yL_testPoint cL_testPoint 4 (some .int) [(0, 9, 12, 26), (0, 9, 15, 13)] ∈ TG := tg (sg_6 _ (List.mem_of_getElem? (i := 68) (by decide +kernel))) (by decide +kernel)
theorem w_813 : Cond.static yL_testPoint ∈ TG := tg (sg_6 _ (List.mem_of_getElem? (i := 67) (by decide +kernel))) (by decide +kernel)
theorem w_814 : Cond.methodLink RL 244 yX15_testPoint ∈ TG := tg (sg_11 _ (List.mem_of_getElem? (i := 86) (by decide +kernel))) (by decide +kernel)
theorem w_815 : Cond.code yX15_testPoint cX15_testPoint 4 (some .int) ∈ TG := tg (sg_11 _ (List.mem_of_getElem? (i := 89) (by decide +kernel))) (by decide +kernel)
theorem w_816 : Cond.instanceMethod yX15_testPoint ∈ TG := tg (sg_11 _ (List.mem_of_getElem? (i := 87) (by decide +kernel))) (by decide +kernel)
theorem w_817 : Cond.selects RX15 yX15_testPoint yX15_testPoint ∈ TG := tg (sg_11 _ (List.mem_of_getElem? (i := 88) (by decide +kernel))) (by decide +kernel)
theorem w_818 : Cond.methodLink RL 245 yL_pattern ∈ TG := tg (sg_6 _ (List.mem_of_getElem? (i := 79) (by decide +kernel))) (by decide +kernel)
theorem w_819 : Cond.codeWith yL_pattern cL_pattern 5 (some .int) [(0, 10, 13, 24), (0, 10, 17, 13), (0, 10, 21, 15)] ∈ TG := tg (sg_6 _ (List.mem_of_getElem? (i := 81) (by decide +kernel))) (by decide +kernel)
theorem w_820 : Cond.static yL_pattern ∈ TG := tg (sg_6 _ (List.mem_of_getElem? (i := 80) (by decide +kernel))) (by decide +kernel)
theorem w_821 : Cond.methodLink RL 247 yX15_pattern ∈ TG := tg (sg_11 _ (List.mem_of_getElem? (i := 99) (by decide +kernel))) (by decide +kernel)
theorem w_822 : Cond.code yX15_pattern cX15_pattern 7 (some .int) ∈ TG := tg (sg_11 _ (List.mem_of_getElem? (i := 102) (by decide +kernel))) (by decide +kernel)
theorem w_823 : Cond.instanceMethod yX15_pattern ∈ TG := tg (sg_11 _ (List.mem_of_getElem? (i := 100) (by decide +kernel))) (by decide +kernel)
theorem w_824 : Cond.selects RX15 yX15_pattern yX15_pattern ∈ TG := tg (sg_11 _ (List.mem_of_getElem? (i := 101) (by decide +kernel))) (by decide +kernel)
theorem w_825 : Cond.methodLink RL 248 yL_value ∈ TG := tg (sg_6 _ (List.mem_of_getElem? (i := 90) (by decide +kernel))) (by decide +kernel)
theorem w_826 : Cond.codeWith yL_value cL_value 5 (some .int) [(0, 10, 13, 26)] ∈ TG := tg (sg_6 _ (List.mem_of_getElem? (i := 92) (by decide +kernel))) (by decide +kernel)
theorem w_827 : Cond.static yL_value ∈ TG := tg (sg_6 _ (List.mem_of_getElem? (i := 91) (by decide +kernel))) (by decide +kernel)
theorem w_828 : Cond.methodLink RL 250 yX15_value ∈ TG := tg (sg_11 _ (List.mem_of_getElem? (i := 118) (by decide +kernel))) (by decide +kernel)
theorem w_829 : Cond.code yX15_value cX15_value 3 (some .int) ∈ TG := tg (sg_11 _ (List.mem_of_getElem? (i := 121) (by decide +kernel))) (by decide +kernel)
theorem w_830 : Cond.instanceMethod yX15_value ∈ TG := tg (sg_11 _ (List.mem_of_getElem? (i := 119) (by decide +kernel))) (by decide +kernel)
theorem w_831 : Cond.selects RX15 yX15_value yX15_value ∈ TG := tg (sg_11 _ (List.mem_of_getElem? (i := 120) (by decide +kernel))) (by decide +kernel)
theorem w_832 : Cond.methodLink RL 251 yL_faulty ∈ TG := tg (sg_6 _ (List.mem_of_getElem? (i := 101) (by decide +kernel))) (by decide +kernel)
theorem w_833 : Cond.codeWith yL_faulty cL_faulty 6 (some .int) [(0, 12, 15, 26)] ∈ TG := tg (sg_6 _ (List.mem_of_getElem? (i := 103) (by decide +kernel))) (by decide +kernel)
theorem w_834 : Cond.static yL_faulty ∈ TG := tg (sg_6 _ (List.mem_of_getElem? (i := 102) (by decide +kernel))) (by decide +kernel)
theorem w_835 : Cond.methodLink RL 254 yX15_faulty ∈ TG := tg (sg_11 _ (List.mem_of_getElem? (i := 154) (by decide +kernel))) (by decide +kernel)
theorem w_836 : Cond.code yX15_faulty cX15_faulty 6 (some .int) ∈ TG := tg (sg_11 _ (List.mem_of_getElem? (i := 157) (by decide +kernel))) (by decide +kernel)
theorem w_837 : Cond.instanceMethod yX15_faulty ∈ TG := tg (sg_11 _ (List.mem_of_getElem? (i := 155) (by decide +kernel))) (by decide +kernel)
theorem w_838 : Cond.selects RX15 yX15_faulty yX15_faulty ∈ TG := tg (sg_11 _ (List.mem_of_getElem? (i := 156) (by decide +kernel))) (by decide +kernel)
theorem w_839 : Cond.methodLink RL 255 yX11_faults ∈ TG := tg (sg_3 _ (List.mem_of_getElem? (i := 111) (by decide +kernel))) (by decide +kernel)
theorem w_840 : Cond.code yX11_faults cX11_faults 1 (some .int) ∈ TG := tg (sg_3 _ (List.mem_of_getElem? (i := 114) (by decide +kernel))) (by decide +kernel)
theorem w_841 : Cond.instanceMethod yX11_faults ∈ TG := tg (sg_3 _ (List.mem_of_getElem? (i := 112) (by decide +kernel))) (by decide +kernel)
theorem w_842 : Cond.selects RX11 yX11_faults yX11_faults ∈ TG := tg (sg_3 _ (List.mem_of_getElem? (i := 113) (by decide +kernel))) (by decide +kernel)
theorem w_843 : Cond.methodLink RL 258 yX15_faults ∈ TG := tg (sg_11 _ (List.mem_of_getElem? (i := 203) (by decide +kernel))) (by decide +kernel)
theorem w_844 : Cond.code yX15_faults cX15_faults 1 (some .int) ∈ TG := tg (sg_11 _ (List.mem_of_getElem? (i := 206) (by decide +kernel))) (by decide +kernel)
theorem w_845 : Cond.instanceMethod yX15_faults ∈ TG := tg (sg_11 _ (List.mem_of_getElem? (i := 204) (by decide +kernel))) (by decide +kernel)
theorem w_846 : Cond.selects RX15 yX15_faults yX15_faults ∈ TG := tg (sg_11 _ (List.mem_of_getElem? (i := 205) (by decide +kernel))) (by decide +kernel)
theorem w_847 : Cond.methodLink RL 259 yL_lineOf ∈ TG := tg (sg_6 _ (List.mem_of_getElem? (i := 113) (by decide +kernel))) (by decide +kernel)
theorem w_848 : Cond.codeWith yL_lineOf cL_lineOf 4 (some .int) [(0, 9, 12, 26)] ∈ TG := tg (sg_6 _ (List.mem_of_getElem? (i := 115) (by decide +kernel))) (by decide +kernel)
theorem w_849 : Cond.static yL_lineOf ∈ TG := tg (sg_6 _ (List.mem_of_getElem? (i := 114) (by decide +kernel))) (by decide +kernel)
theorem w_850 : Cond.methodLink RL 261 yX15_lineOf ∈ TG := tg (sg_11 _ (List.mem_of_getElem? (i := 207) (by decide +kernel))) (by decide +kernel)
theorem w_851 : Cond.code yX15_lineOf cX15_lineOf 2 (some .int) ∈ TG := tg (sg_11 _ (List.mem_of_getElem? (i := 210) (by decide +kernel))) (by decide +kernel)
theorem w_852 : Cond.instanceMethod yX15_lineOf ∈ TG := tg (sg_11 _ (List.mem_of_getElem? (i := 208) (by decide +kernel))) (by decide +kernel)
theorem w_853 : Cond.selects RX15 yX15_lineOf yX15_lineOf ∈ TG := tg (sg_11 _ (List.mem_of_getElem? (i := 209) (by decide +kernel))) (by decide +kernel)
theorem dL_law_340 : decode cL_law 340 = .ok (.aload_n 1, 1) := by decide +kernel
theorem dL_law_341 : decode cL_law 341 = .ok (.aload_n 3, 1) := by decide +kernel
theorem dL_law_342 : decode cL_law 342 = .ok (.invokestatic 215, 3) := by decide +kernel
theorem dL_law_345 : decode cL_law 345 = .ok (.istore 6, 2) := by decide +kernel
theorem dL_law_347 : decode cL_law 347 = .ok (.aload_n 2, 1) := by decide +kernel
theorem dL_law_348 : decode cL_law 348 = .ok (.invokevirtual 220, 3) := by decide +kernel
theorem dL_law_351 : decode cL_law 351 = .ok (.istore 7, 2) := by decide +kernel
theorem dL_law_353 : decode cL_law 353 = .ok (.aload_n 2, 1) := by decide +kernel
theorem dL_law_354 : decode cL_law 354 = .ok (.invokevirtual 221, 3) := by decide +kernel
theorem dL_law_357 : decode cL_law 357 = .ok (.iload 6, 2) := by decide +kernel
theorem dL_law_359 : decode cL_law 359 = .ok (.if_icmp .eq 5, 3) := by decide +kernel
theorem dL_law_364 : decode cL_law 364 = .ok (.iload 6, 2) := by decide +kernel
theorem dL_law_366 : decode cL_law 366 = .ok (.ifCond .ne 15, 3) := by decide +kernel
theorem dL_law_369 : decode cL_law 369 = .ok (.aload_n 3, 1) := by decide +kernel
theorem dL_law_370 : decode cL_law 370 = .ok (.iconst 0, 1) := by decide +kernel
theorem dL_law_371 : decode cL_law 371 = .ok (.laload, 1) := by decide +kernel
theorem dL_law_372 : decode cL_law 372 = .ok (.iload 7, 2) := by decide +kernel
theorem dL_law_374 : decode cL_law 374 = .ok (.i2l, 1) := by decide +kernel
theorem dL_law_375 : decode cL_law 375 = .ok (.lcmp, 1) := by decide +kernel
theorem dL_law_376 : decode cL_law 376 = .ok (.ifCond .eq 5, 3) := by decide +kernel
theorem dL_law_381 : decode cL_law 381 = .ok (.goto 3883, 3) := by decide +kernel
theorem dL_law_384 : decode cL_law 384 = .ok (.aload_n 1, 1) := by decide +kernel
theorem dL_law_385 : decode cL_law 385 = .ok (.aload_n 3, 1) := by decide +kernel
theorem dL_law_386 : decode cL_law 386 = .ok (.invokestatic 224, 3) := by decide +kernel
theorem dL_law_389 : decode cL_law 389 = .ok (.istore 6, 2) := by decide +kernel
theorem dL_law_391 : decode cL_law 391 = .ok (.aload_n 2, 1) := by decide +kernel
theorem dL_law_392 : decode cL_law 392 = .ok (.invokevirtual 226, 3) := by decide +kernel
theorem dL_law_395 : decode cL_law 395 = .ok (.istore 7, 2) := by decide +kernel
theorem dL_law_397 : decode cL_law 397 = .ok (.aload_n 2, 1) := by decide +kernel
theorem dL_law_398 : decode cL_law 398 = .ok (.invokevirtual 221, 3) := by decide +kernel
theorem dL_law_401 : decode cL_law 401 = .ok (.iload 6, 2) := by decide +kernel
theorem dL_law_403 : decode cL_law 403 = .ok (.if_icmp .eq 5, 3) := by decide +kernel
theorem dL_law_408 : decode cL_law 408 = .ok (.iload 6, 2) := by decide +kernel
theorem dL_law_410 : decode cL_law 410 = .ok (.ifCond .ne 15, 3) := by decide +kernel
theorem dL_law_413 : decode cL_law 413 = .ok (.aload_n 3, 1) := by decide +kernel
theorem dL_law_414 : decode cL_law 414 = .ok (.iconst 0, 1) := by decide +kernel
theorem dL_law_415 : decode cL_law 415 = .ok (.laload, 1) := by decide +kernel
theorem dL_law_416 : decode cL_law 416 = .ok (.iload 7, 2) := by decide +kernel
theorem dL_law_418 : decode cL_law 418 = .ok (.i2l, 1) := by decide +kernel
theorem dL_law_419 : decode cL_law 419 = .ok (.lcmp, 1) := by decide +kernel
theorem dL_law_420 : decode cL_law 420 = .ok (.ifCond .eq 5, 3) := by decide +kernel
theorem dL_law_425 : decode cL_law 425 = .ok (.goto 3839, 3) := by decide +kernel
theorem dL_law_428 : decode cL_law 428 = .ok (.aload_n 1, 1) := by decide +kernel
theorem dL_law_429 : decode cL_law 429 = .ok (.aload_n 0, 1) := by decide +kernel
theorem dL_law_430 : decode cL_law 430 = .ok (.iload 5, 2) := by decide +kernel
theorem dL_law_432 : decode cL_law 432 = .ok (.iconst 1, 1) := by decide +kernel
theorem dL_law_433 : decode cL_law 433 = .ok (.iadd, 1) := by decide +kernel
theorem dL_law_434 : decode cL_law 434 = .ok (.iaload, 1) := by decide +kernel
theorem dL_law_435 : decode cL_law 435 = .ok (.i2c, 1) := by decide +kernel
theorem dL_law_436 : decode cL_law 436 = .ok (.aload_n 0, 1) := by decide +kernel
theorem dL_law_437 : decode cL_law 437 = .ok (.iload 5, 2) := by decide +kernel
theorem dL_law_439 : decode cL_law 439 = .ok (.iconst 2, 1) := by decide +kernel
theorem dL_law_440 : decode cL_law 440 = .ok (.iadd, 1) := by decide +kernel
theorem dL_law_441 : decode cL_law 441 = .ok (.iaload, 1) := by decide +kernel
theorem dL_law_442 : decode cL_law 442 = .ok (.aload_n 0, 1) := by decide +kernel
theorem dL_law_443 : decode cL_law 443 = .ok (.iload 5, 2) := by decide +kernel
theorem dL_law_445 : decode cL_law 445 = .ok (.iconst 3, 1) := by decide +kernel
theorem dL_law_446 : decode cL_law 446 = .ok (.iadd, 1) := by decide +kernel
theorem dL_law_447 : decode cL_law 447 = .ok (.iaload, 1) := by decide +kernel
theorem dL_law_448 : decode cL_law 448 = .ok (.aload_n 3, 1) := by decide +kernel
theorem dL_law_449 : decode cL_law 449 = .ok (.invokestatic 227, 3) := by decide +kernel
theorem dL_law_452 : decode cL_law 452 = .ok (.istore 6, 2) := by decide +kernel
theorem dL_law_454 : decode cL_law 454 = .ok (.aload_n 2, 1) := by decide +kernel
theorem dL_law_455 : decode cL_law 455 = .ok (.aload_n 0, 1) := by decide +kernel
theorem dL_law_456 : decode cL_law 456 = .ok (.iload 5, 2) := by decide +kernel
theorem dL_law_458 : decode cL_law 458 = .ok (.iconst 1, 1) := by decide +kernel
theorem dL_law_459 : decode cL_law 459 = .ok (.iadd, 1) := by decide +kernel
theorem dL_law_460 : decode cL_law 460 = .ok (.iaload, 1) := by decide +kernel
theorem dL_law_461 : decode cL_law 461 = .ok (.i2c, 1) := by decide +kernel
theorem dL_law_462 : decode cL_law 462 = .ok (.aload_n 0, 1) := by decide +kernel
theorem dL_law_463 : decode cL_law 463 = .ok (.iload 5, 2) := by decide +kernel
theorem dL_law_465 : decode cL_law 465 = .ok (.iconst 2, 1) := by decide +kernel
theorem dL_law_466 : decode cL_law 466 = .ok (.iadd, 1) := by decide +kernel
theorem dL_law_467 : decode cL_law 467 = .ok (.iaload, 1) := by decide +kernel
theorem dL_law_468 : decode cL_law 468 = .ok (.aload_n 0, 1) := by decide +kernel
theorem dL_law_469 : decode cL_law 469 = .ok (.iload 5, 2) := by decide +kernel
theorem dL_law_471 : decode cL_law 471 = .ok (.iconst 3, 1) := by decide +kernel
theorem dL_law_472 : decode cL_law 472 = .ok (.iadd, 1) := by decide +kernel
theorem dL_law_473 : decode cL_law 473 = .ok (.iaload, 1) := by decide +kernel
theorem dL_law_474 : decode cL_law 474 = .ok (.invokevirtual 230, 3) := by decide +kernel
theorem dL_law_477 : decode cL_law 477 = .ok (.istore 7, 2) := by decide +kernel
theorem dL_law_479 : decode cL_law 479 = .ok (.aload_n 2, 1) := by decide +kernel
theorem dL_law_480 : decode cL_law 480 = .ok (.invokevirtual 221, 3) := by decide +kernel
theorem dL_law_483 : decode cL_law 483 = .ok (.iload 6, 2) := by decide +kernel
theorem dL_law_485 : decode cL_law 485 = .ok (.if_icmp .eq 5, 3) := by decide +kernel
theorem dL_law_490 : decode cL_law 490 = .ok (.iload 6, 2) := by decide +kernel
theorem dL_law_492 : decode cL_law 492 = .ok (.ifCond .ne 15, 3) := by decide +kernel
theorem dL_law_507 : decode cL_law 507 = .ok (.goto 3757, 3) := by decide +kernel
theorem dL_law_510 : decode cL_law 510 = .ok (.aload_n 1, 1) := by decide +kernel
theorem dL_law_511 : decode cL_law 511 = .ok (.aload_n 0, 1) := by decide +kernel
theorem dL_law_512 : decode cL_law 512 = .ok (.iload 5, 2) := by decide +kernel
theorem dL_law_514 : decode cL_law 514 = .ok (.iconst 1, 1) := by decide +kernel
theorem dL_law_515 : decode cL_law 515 = .ok (.iadd, 1) := by decide +kernel
theorem dL_law_516 : decode cL_law 516 = .ok (.iaload, 1) := by decide +kernel
theorem dL_law_517 : decode cL_law 517 = .ok (.aload_n 0, 1) := by decide +kernel
theorem dL_law_518 : decode cL_law 518 = .ok (.iload 5, 2) := by decide +kernel
theorem dL_law_520 : decode cL_law 520 = .ok (.iconst 2, 1) := by decide +kernel
theorem dL_law_521 : decode cL_law 521 = .ok (.iadd, 1) := by decide +kernel
theorem dL_law_522 : decode cL_law 522 = .ok (.iaload, 1) := by decide +kernel
theorem dL_law_523 : decode cL_law 523 = .ok (.aload_n 3, 1) := by decide +kernel
theorem dL_law_524 : decode cL_law 524 = .ok (.invokestatic 231, 3) := by decide +kernel
theorem dL_law_527 : decode cL_law 527 = .ok (.istore 6, 2) := by decide +kernel
theorem dL_law_529 : decode cL_law 529 = .ok (.aload_n 2, 1) := by decide +kernel
theorem dL_law_530 : decode cL_law 530 = .ok (.aload_n 0, 1) := by decide +kernel
theorem dL_law_531 : decode cL_law 531 = .ok (.iload 5, 2) := by decide +kernel
theorem dL_law_533 : decode cL_law 533 = .ok (.iconst 1, 1) := by decide +kernel
theorem dL_law_534 : decode cL_law 534 = .ok (.iadd, 1) := by decide +kernel
theorem dL_law_535 : decode cL_law 535 = .ok (.iaload, 1) := by decide +kernel
theorem dL_law_536 : decode cL_law 536 = .ok (.aload_n 0, 1) := by decide +kernel
theorem dL_law_537 : decode cL_law 537 = .ok (.iload 5, 2) := by decide +kernel
theorem dL_law_539 : decode cL_law 539 = .ok (.iconst 2, 1) := by decide +kernel
theorem dL_law_540 : decode cL_law 540 = .ok (.iadd, 1) := by decide +kernel
theorem dL_law_541 : decode cL_law 541 = .ok (.iaload, 1) := by decide +kernel
theorem dL_law_542 : decode cL_law 542 = .ok (.invokevirtual 234, 3) := by decide +kernel
theorem dL_law_545 : decode cL_law 545 = .ok (.istore 7, 2) := by decide +kernel
theorem dL_law_547 : decode cL_law 547 = .ok (.aload_n 2, 1) := by decide +kernel
theorem dL_law_548 : decode cL_law 548 = .ok (.invokevirtual 221, 3) := by decide +kernel
theorem dL_law_551 : decode cL_law 551 = .ok (.iload 6, 2) := by decide +kernel
theorem dL_law_553 : decode cL_law 553 = .ok (.if_icmp .eq 5, 3) := by decide +kernel
theorem dL_law_558 : decode cL_law 558 = .ok (.iload 6, 2) := by decide +kernel
theorem dL_law_560 : decode cL_law 560 = .ok (.ifCond .ne 15, 3) := by decide +kernel
theorem dL_law_575 : decode cL_law 575 = .ok (.goto 3689, 3) := by decide +kernel
theorem dL_law_578 : decode cL_law 578 = .ok (.aload_n 1, 1) := by decide +kernel
theorem dL_law_579 : decode cL_law 579 = .ok (.aload_n 0, 1) := by decide +kernel
theorem dL_law_580 : decode cL_law 580 = .ok (.iload 5, 2) := by decide +kernel
theorem dL_law_582 : decode cL_law 582 = .ok (.iconst 1, 1) := by decide +kernel
theorem dL_law_583 : decode cL_law 583 = .ok (.iadd, 1) := by decide +kernel
theorem dL_law_584 : decode cL_law 584 = .ok (.iaload, 1) := by decide +kernel
theorem dL_law_585 : decode cL_law 585 = .ok (.aload_n 3, 1) := by decide +kernel
theorem dL_law_586 : decode cL_law 586 = .ok (.invokestatic 235, 3) := by decide +kernel
theorem dL_law_589 : decode cL_law 589 = .ok (.istore 6, 2) := by decide +kernel
theorem dL_law_591 : decode cL_law 591 = .ok (.aload_n 2, 1) := by decide +kernel
theorem dL_law_592 : decode cL_law 592 = .ok (.aload_n 0, 1) := by decide +kernel
theorem dL_law_593 : decode cL_law 593 = .ok (.iload 5, 2) := by decide +kernel
theorem dL_law_595 : decode cL_law 595 = .ok (.iconst 1, 1) := by decide +kernel
theorem dL_law_596 : decode cL_law 596 = .ok (.iadd, 1) := by decide +kernel
theorem dL_law_597 : decode cL_law 597 = .ok (.iaload, 1) := by decide +kernel
theorem dL_law_598 : decode cL_law 598 = .ok (.invokevirtual 238, 3) := by decide +kernel
theorem dL_law_601 : decode cL_law 601 = .ok (.istore 7, 2) := by decide +kernel
theorem dL_law_603 : decode cL_law 603 = .ok (.aload_n 2, 1) := by decide +kernel
theorem dL_law_604 : decode cL_law 604 = .ok (.invokevirtual 221, 3) := by decide +kernel
theorem dL_law_607 : decode cL_law 607 = .ok (.iload 6, 2) := by decide +kernel
theorem dL_law_609 : decode cL_law 609 = .ok (.if_icmp .eq 5, 3) := by decide +kernel
theorem dL_law_614 : decode cL_law 614 = .ok (.iload 6, 2) := by decide +kernel
theorem dL_law_616 : decode cL_law 616 = .ok (.ifCond .ne 22, 3) := by decide +kernel
theorem dL_law_638 : decode cL_law 638 = .ok (.goto 3626, 3) := by decide +kernel
theorem dL_law_641 : decode cL_law 641 = .ok (.aload_n 1, 1) := by decide +kernel
theorem dL_law_642 : decode cL_law 642 = .ok (.aload_n 3, 1) := by decide +kernel
theorem dL_law_643 : decode cL_law 643 = .ok (.invokestatic 239, 3) := by decide +kernel
theorem dL_law_646 : decode cL_law 646 = .ok (.istore 6, 2) := by decide +kernel
theorem dL_law_648 : decode cL_law 648 = .ok (.aload_n 2, 1) := by decide +kernel
theorem dL_law_649 : decode cL_law 649 = .ok (.invokevirtual 241, 3) := by decide +kernel
theorem dL_law_652 : decode cL_law 652 = .ok (.istore 7, 2) := by decide +kernel
theorem dL_law_654 : decode cL_law 654 = .ok (.aload_n 2, 1) := by decide +kernel
theorem dL_law_655 : decode cL_law 655 = .ok (.invokevirtual 221, 3) := by decide +kernel
theorem dL_law_658 : decode cL_law 658 = .ok (.iload 6, 2) := by decide +kernel
theorem dL_law_660 : decode cL_law 660 = .ok (.if_icmp .eq 5, 3) := by decide +kernel
theorem dL_law_665 : decode cL_law 665 = .ok (.iload 6, 2) := by decide +kernel
theorem dL_law_667 : decode cL_law 667 = .ok (.ifCond .ne 15, 3) := by decide +kernel
theorem dL_law_682 : decode cL_law 682 = .ok (.goto 3582, 3) := by decide +kernel
theorem dL_law_685 : decode cL_law 685 = .ok (.aload_n 1, 1) := by decide +kernel
theorem dL_law_686 : decode cL_law 686 = .ok (.aload_n 0, 1) := by decide +kernel
theorem dL_law_687 : decode cL_law 687 = .ok (.iload 5, 2) := by decide +kernel
theorem dL_law_689 : decode cL_law 689 = .ok (.iconst 1, 1) := by decide +kernel
theorem dL_law_690 : decode cL_law 690 = .ok (.iadd, 1) := by decide +kernel
theorem dL_law_691 : decode cL_law 691 = .ok (.iaload, 1) := by decide +kernel
theorem dL_law_692 : decode cL_law 692 = .ok (.aload_n 3, 1) := by decide +kernel
theorem dL_law_693 : decode cL_law 693 = .ok (.invokestatic 242, 3) := by decide +kernel
theorem dL_law_696 : decode cL_law 696 = .ok (.istore 6, 2) := by decide +kernel
theorem dL_law_698 : decode cL_law 698 = .ok (.aload_n 2, 1) := by decide +kernel
theorem dL_law_699 : decode cL_law 699 = .ok (.aload_n 0, 1) := by decide +kernel
theorem dL_law_700 : decode cL_law 700 = .ok (.iload 5, 2) := by decide +kernel
theorem dL_law_702 : decode cL_law 702 = .ok (.iconst 1, 1) := by decide +kernel
theorem dL_law_703 : decode cL_law 703 = .ok (.iadd, 1) := by decide +kernel
theorem dL_law_704 : decode cL_law 704 = .ok (.iaload, 1) := by decide +kernel
theorem dL_law_705 : decode cL_law 705 = .ok (.invokevirtual 244, 3) := by decide +kernel
theorem dL_law_708 : decode cL_law 708 = .ok (.istore 7, 2) := by decide +kernel
theorem dL_law_710 : decode cL_law 710 = .ok (.aload_n 2, 1) := by decide +kernel
theorem dL_law_711 : decode cL_law 711 = .ok (.invokevirtual 221, 3) := by decide +kernel
theorem dL_law_714 : decode cL_law 714 = .ok (.iload 6, 2) := by decide +kernel
theorem dL_law_716 : decode cL_law 716 = .ok (.if_icmp .eq 5, 3) := by decide +kernel
theorem dL_law_721 : decode cL_law 721 = .ok (.iload 6, 2) := by decide +kernel
theorem dL_law_723 : decode cL_law 723 = .ok (.ifCond .ne 15, 3) := by decide +kernel
theorem dL_law_738 : decode cL_law 738 = .ok (.goto 3526, 3) := by decide +kernel
theorem dL_law_741 : decode cL_law 741 = .ok (.aload_n 1, 1) := by decide +kernel
theorem dL_law_742 : decode cL_law 742 = .ok (.aload_n 0, 1) := by decide +kernel
theorem dL_law_743 : decode cL_law 743 = .ok (.iload 5, 2) := by decide +kernel
theorem dL_law_745 : decode cL_law 745 = .ok (.iconst 1, 1) := by decide +kernel
theorem dL_law_746 : decode cL_law 746 = .ok (.iadd, 1) := by decide +kernel
theorem dL_law_747 : decode cL_law 747 = .ok (.iaload, 1) := by decide +kernel
theorem dL_law_748 : decode cL_law 748 = .ok (.aload_n 0, 1) := by decide +kernel
theorem dL_law_749 : decode cL_law 749 = .ok (.iload 5, 2) := by decide +kernel
theorem dL_law_751 : decode cL_law 751 = .ok (.iconst 2, 1) := by decide +kernel
theorem dL_law_752 : decode cL_law 752 = .ok (.iadd, 1) := by decide +kernel
theorem dL_law_753 : decode cL_law 753 = .ok (.iaload, 1) := by decide +kernel
theorem dL_law_754 : decode cL_law 754 = .ok (.aload_n 3, 1) := by decide +kernel
theorem dL_law_755 : decode cL_law 755 = .ok (.invokestatic 245, 3) := by decide +kernel
theorem dL_law_758 : decode cL_law 758 = .ok (.istore 6, 2) := by decide +kernel
theorem dL_law_760 : decode cL_law 760 = .ok (.aload_n 2, 1) := by decide +kernel
theorem dL_law_761 : decode cL_law 761 = .ok (.aload_n 0, 1) := by decide +kernel
theorem dL_law_762 : decode cL_law 762 = .ok (.iload 5, 2) := by decide +kernel
theorem dL_law_764 : decode cL_law 764 = .ok (.iconst 1, 1) := by decide +kernel
theorem dL_law_765 : decode cL_law 765 = .ok (.iadd, 1) := by decide +kernel
theorem dL_law_766 : decode cL_law 766 = .ok (.iaload, 1) := by decide +kernel
theorem dL_law_767 : decode cL_law 767 = .ok (.aload_n 0, 1) := by decide +kernel
theorem dL_law_768 : decode cL_law 768 = .ok (.iload 5, 2) := by decide +kernel
theorem dL_law_770 : decode cL_law 770 = .ok (.iconst 2, 1) := by decide +kernel
theorem dL_law_771 : decode cL_law 771 = .ok (.iadd, 1) := by decide +kernel
theorem dL_law_772 : decode cL_law 772 = .ok (.iaload, 1) := by decide +kernel
theorem dL_law_773 : decode cL_law 773 = .ok (.invokevirtual 247, 3) := by decide +kernel
theorem dL_law_776 : decode cL_law 776 = .ok (.istore 7, 2) := by decide +kernel
theorem dL_law_778 : decode cL_law 778 = .ok (.aload_n 2, 1) := by decide +kernel
theorem dL_law_779 : decode cL_law 779 = .ok (.invokevirtual 221, 3) := by decide +kernel
theorem dL_law_782 : decode cL_law 782 = .ok (.iload 6, 2) := by decide +kernel
theorem dL_law_784 : decode cL_law 784 = .ok (.if_icmp .eq 5, 3) := by decide +kernel
theorem dL_law_789 : decode cL_law 789 = .ok (.iload 6, 2) := by decide +kernel
theorem dL_law_791 : decode cL_law 791 = .ok (.ifCond .ne 15, 3) := by decide +kernel
theorem dL_law_806 : decode cL_law 806 = .ok (.goto 3458, 3) := by decide +kernel
theorem dL_law_809 : decode cL_law 809 = .ok (.aload_n 1, 1) := by decide +kernel
theorem dL_law_810 : decode cL_law 810 = .ok (.aload_n 0, 1) := by decide +kernel
theorem dL_law_811 : decode cL_law 811 = .ok (.iload 5, 2) := by decide +kernel
theorem dL_law_813 : decode cL_law 813 = .ok (.iconst 1, 1) := by decide +kernel
theorem dL_law_814 : decode cL_law 814 = .ok (.iadd, 1) := by decide +kernel
theorem dL_law_815 : decode cL_law 815 = .ok (.iaload, 1) := by decide +kernel
theorem dL_law_816 : decode cL_law 816 = .ok (.aload_n 0, 1) := by decide +kernel
theorem dL_law_817 : decode cL_law 817 = .ok (.iload 5, 2) := by decide +kernel
theorem dL_law_819 : decode cL_law 819 = .ok (.iconst 2, 1) := by decide +kernel
theorem dL_law_820 : decode cL_law 820 = .ok (.iadd, 1) := by decide +kernel
theorem dL_law_821 : decode cL_law 821 = .ok (.iaload, 1) := by decide +kernel
theorem dL_law_822 : decode cL_law 822 = .ok (.aload_n 3, 1) := by decide +kernel
theorem dL_law_823 : decode cL_law 823 = .ok (.invokestatic 248, 3) := by decide +kernel
theorem dL_law_826 : decode cL_law 826 = .ok (.istore 6, 2) := by decide +kernel
theorem dL_law_828 : decode cL_law 828 = .ok (.aload_n 2, 1) := by decide +kernel
theorem dL_law_829 : decode cL_law 829 = .ok (.aload_n 0, 1) := by decide +kernel
theorem dL_law_830 : decode cL_law 830 = .ok (.iload 5, 2) := by decide +kernel
theorem dL_law_832 : decode cL_law 832 = .ok (.iconst 1, 1) := by decide +kernel
theorem dL_law_833 : decode cL_law 833 = .ok (.iadd, 1) := by decide +kernel
theorem dL_law_834 : decode cL_law 834 = .ok (.iaload, 1) := by decide +kernel
theorem dL_law_835 : decode cL_law 835 = .ok (.aload_n 0, 1) := by decide +kernel
theorem dL_law_836 : decode cL_law 836 = .ok (.iload 5, 2) := by decide +kernel
theorem dL_law_838 : decode cL_law 838 = .ok (.iconst 2, 1) := by decide +kernel
theorem dL_law_839 : decode cL_law 839 = .ok (.iadd, 1) := by decide +kernel
theorem dL_law_840 : decode cL_law 840 = .ok (.iaload, 1) := by decide +kernel
theorem dL_law_841 : decode cL_law 841 = .ok (.invokevirtual 250, 3) := by decide +kernel
theorem dL_law_844 : decode cL_law 844 = .ok (.istore 7, 2) := by decide +kernel
theorem dL_law_846 : decode cL_law 846 = .ok (.aload_n 2, 1) := by decide +kernel
theorem dL_law_847 : decode cL_law 847 = .ok (.invokevirtual 221, 3) := by decide +kernel
theorem dL_law_850 : decode cL_law 850 = .ok (.iload 6, 2) := by decide +kernel
theorem dL_law_852 : decode cL_law 852 = .ok (.if_icmp .eq 5, 3) := by decide +kernel
theorem dL_law_857 : decode cL_law 857 = .ok (.iload 6, 2) := by decide +kernel
theorem dL_law_859 : decode cL_law 859 = .ok (.ifCond .ne 15, 3) := by decide +kernel
theorem dL_law_874 : decode cL_law 874 = .ok (.goto 3390, 3) := by decide +kernel
theorem dL_law_877 : decode cL_law 877 = .ok (.aload_n 1, 1) := by decide +kernel
theorem dL_law_878 : decode cL_law 878 = .ok (.aload_n 0, 1) := by decide +kernel
theorem dL_law_879 : decode cL_law 879 = .ok (.iload 5, 2) := by decide +kernel
theorem dL_law_881 : decode cL_law 881 = .ok (.iconst 1, 1) := by decide +kernel
theorem dL_law_882 : decode cL_law 882 = .ok (.iadd, 1) := by decide +kernel
theorem dL_law_883 : decode cL_law 883 = .ok (.iaload, 1) := by decide +kernel
theorem dL_law_884 : decode cL_law 884 = .ok (.aload_n 0, 1) := by decide +kernel
theorem dL_law_885 : decode cL_law 885 = .ok (.iload 5, 2) := by decide +kernel
theorem dL_law_887 : decode cL_law 887 = .ok (.iconst 2, 1) := by decide +kernel
theorem dL_law_888 : decode cL_law 888 = .ok (.iadd, 1) := by decide +kernel
theorem dL_law_889 : decode cL_law 889 = .ok (.iaload, 1) := by decide +kernel
theorem dL_law_890 : decode cL_law 890 = .ok (.aload_n 0, 1) := by decide +kernel
theorem dL_law_891 : decode cL_law 891 = .ok (.iload 5, 2) := by decide +kernel
theorem dL_law_893 : decode cL_law 893 = .ok (.iconst 3, 1) := by decide +kernel
theorem dL_law_894 : decode cL_law 894 = .ok (.iadd, 1) := by decide +kernel
theorem dL_law_895 : decode cL_law 895 = .ok (.iaload, 1) := by decide +kernel
theorem dL_law_896 : decode cL_law 896 = .ok (.aload_n 3, 1) := by decide +kernel
theorem dL_law_897 : decode cL_law 897 = .ok (.invokestatic 251, 3) := by decide +kernel
theorem dL_law_900 : decode cL_law 900 = .ok (.istore 6, 2) := by decide +kernel
theorem dL_law_902 : decode cL_law 902 = .ok (.aload_n 2, 1) := by decide +kernel
theorem dL_law_903 : decode cL_law 903 = .ok (.aload_n 0, 1) := by decide +kernel
theorem dL_law_904 : decode cL_law 904 = .ok (.iload 5, 2) := by decide +kernel
theorem dL_law_906 : decode cL_law 906 = .ok (.iconst 1, 1) := by decide +kernel
theorem dL_law_907 : decode cL_law 907 = .ok (.iadd, 1) := by decide +kernel
theorem dL_law_908 : decode cL_law 908 = .ok (.iaload, 1) := by decide +kernel
theorem dL_law_909 : decode cL_law 909 = .ok (.aload_n 0, 1) := by decide +kernel
theorem dL_law_910 : decode cL_law 910 = .ok (.iload 5, 2) := by decide +kernel
theorem dL_law_912 : decode cL_law 912 = .ok (.iconst 2, 1) := by decide +kernel
theorem dL_law_913 : decode cL_law 913 = .ok (.iadd, 1) := by decide +kernel
theorem dL_law_914 : decode cL_law 914 = .ok (.iaload, 1) := by decide +kernel
theorem dL_law_915 : decode cL_law 915 = .ok (.aload_n 0, 1) := by decide +kernel
theorem dL_law_916 : decode cL_law 916 = .ok (.iload 5, 2) := by decide +kernel
theorem dL_law_918 : decode cL_law 918 = .ok (.iconst 3, 1) := by decide +kernel
theorem dL_law_919 : decode cL_law 919 = .ok (.iadd, 1) := by decide +kernel
theorem dL_law_920 : decode cL_law 920 = .ok (.iaload, 1) := by decide +kernel
theorem dL_law_921 : decode cL_law 921 = .ok (.invokevirtual 254, 3) := by decide +kernel
theorem dL_law_924 : decode cL_law 924 = .ok (.istore 7, 2) := by decide +kernel
theorem dL_law_926 : decode cL_law 926 = .ok (.aload_n 2, 1) := by decide +kernel
theorem dL_law_927 : decode cL_law 927 = .ok (.invokevirtual 221, 3) := by decide +kernel
theorem dL_law_930 : decode cL_law 930 = .ok (.iload 6, 2) := by decide +kernel
theorem dL_law_932 : decode cL_law 932 = .ok (.if_icmp .eq 5, 3) := by decide +kernel
theorem dL_law_937 : decode cL_law 937 = .ok (.iload 6, 2) := by decide +kernel
theorem dL_law_939 : decode cL_law 939 = .ok (.ifCond .ne 15, 3) := by decide +kernel
theorem dL_law_954 : decode cL_law 954 = .ok (.goto 3310, 3) := by decide +kernel
theorem dL_law_957 : decode cL_law 957 = .ok (.aload_n 1, 1) := by decide +kernel
theorem dL_law_958 : decode cL_law 958 = .ok (.invokevirtual 255, 3) := by decide +kernel
theorem dL_law_961 : decode cL_law 961 = .ok (.aload_n 2, 1) := by decide +kernel
theorem dL_law_962 : decode cL_law 962 = .ok (.invokevirtual 258, 3) := by decide +kernel
theorem dL_law_965 : decode cL_law 965 = .ok (.if_icmp .eq 3299, 3) := by decide +kernel
theorem dL_law_970 : decode cL_law 970 = .ok (.aload_n 1, 1) := by decide +kernel
theorem dL_law_971 : decode cL_law 971 = .ok (.aload_n 0, 1) := by decide +kernel
theorem dL_law_972 : decode cL_law 972 = .ok (.iload 5, 2) := by decide +kernel
theorem dL_law_974 : decode cL_law 974 = .ok (.iconst 1, 1) := by decide +kernel
theorem dL_law_975 : decode cL_law 975 = .ok (.iadd, 1) := by decide +kernel
theorem dL_law_976 : decode cL_law 976 = .ok (.iaload, 1) := by decide +kernel
theorem dL_law_977 : decode cL_law 977 = .ok (.aload_n 3, 1) := by decide +kernel
theorem dL_law_978 : decode cL_law 978 = .ok (.invokestatic 259, 3) := by decide +kernel
theorem dL_law_981 : decode cL_law 981 = .ok (.istore 6, 2) := by decide +kernel
theorem dL_law_983 : decode cL_law 983 = .ok (.aload_n 2, 1) := by decide +kernel
theorem dL_law_984 : decode cL_law 984 = .ok (.aload_n 0, 1) := by decide +kernel
theorem dL_law_985 : decode cL_law 985 = .ok (.iload 5, 2) := by decide +kernel
theorem dL_law_987 : decode cL_law 987 = .ok (.iconst 1, 1) := by decide +kernel
theorem dL_law_988 : decode cL_law 988 = .ok (.iadd, 1) := by decide +kernel
theorem dL_law_989 : decode cL_law 989 = .ok (.iaload, 1) := by decide +kernel
theorem dL_law_990 : decode cL_law 990 = .ok (.invokevirtual 261, 3) := by decide +kernel
theorem dL_law_993 : decode cL_law 993 = .ok (.istore 7, 2) := by decide +kernel
theorem dL_law_995 : decode cL_law 995 = .ok (.aload_n 2, 1) := by decide +kernel
theorem dL_law_996 : decode cL_law 996 = .ok (.invokevirtual 221, 3) := by decide +kernel
theorem dL_law_999 : decode cL_law 999 = .ok (.iload 6, 2) := by decide +kernel
theorem dL_law_1001 : decode cL_law 1001 = .ok (.if_icmp .eq 5, 3) := by decide +kernel
theorem dL_law_1006 : decode cL_law 1006 = .ok (.iload 6, 2) := by decide +kernel
theorem dL_law_1008 : decode cL_law 1008 = .ok (.ifCond .ne 15, 3) := by decide +kernel
theorem dL_law_1023 : decode cL_law 1023 = .ok (.goto 3241, 3) := by decide +kernel
set_option maxHeartbeats 4000000 in
set_option maxRecDepth 100000 in
theorem lw_case_0 {p : Program} {l : Launch} {e : Env} {s : State} {m : MethodId} {below : List Frame} {meth : Method} {c : Code} {H : Heap} {locs : List Loc} {ls : Array Slot} {Q : State → Prop} {D : va_G} {g : Nat → ClassId} {z0 b : Nat} {xs : Nat → Int32} {a : Nat → Nat} {o1 o2 : Nat} (hfl : l.stackTraces = false) (hx : p.tables.exec = Jvm.exec) (hb : c.code = cL_law) (hml : c.maxLocals = 9) (hown : s.vm.findClass RL = some m.cls) (ht : ∀ w ∈ TG, w.before #[Value.ref b] s = true) (hX : va_X b 6 xs s s.heap) (hbl : b < s.heap.size) (hbA : ¬ va_A [] s.heap.size b) (hK : KK D g s) (hZ : ZZ g z0 s) (hz : z0 ≤ s.heap.size) (hAz : ∀ q, va_A [] s.heap.size q → z0 ≤ q) (hP : va_P D vwCl (lwW a g o1 o2) H) (hD : va_D (va_A [] s.heap.size) (lwW a g o1 o2)) (hS : va_S (va_A [] s.heap.size) s.heap H locs) (hl : lv_has ls 9 [(0, .ref b), (1, .ref (a 0)), (2, .ref (a 200)), (3, .ref o1), (4, .ref o2), (5, .int 0)])
    (kk : ∀ (H : Heap) (locs : List Loc) (ls : Array Slot), va_S (va_A [] s.heap.size) s.heap H locs → lv_has ls 9 [(5, .int 0), (0, .ref b)] → W p l e room_1 s m #[Value.ref b] below meth c H locs (200 + 300) (8000 + 2000) Q (F0 m 4264 ls [])) :
    W p l e room_1 s m #[Value.ref b] below meth c H locs 200 8000 Q (F0 m 340 ls []) := by
  have hA : ∀ q : Nat, s.heap.size ≤ q → va_A [] s.heap.size q := Anw
  have hP := hP.sub (ws' := [((a 0), f_x a), ((a 12), .inl (g 2, 40, .inl (fun _ => 0))), ((a 18), .inl (g 0, 40, .inl (fun _ => (-1)))), ((a 19), .inl (g 1, 40, .inr (.inl (fun _ => 0)))), ((a 1), f_net a), ((a 200), f_m a g), ((a 201), .inr (5, [.int 0, .ref (g 100), .int 0])), ((a 202), .inr (5, [.int 0, .ref (g 100), .int 0])), (o1, .inl (g 1, 1, .inr (.inl (fun _ => 0))))]) [0, 1, 2, 3, 5, 26, 27, 28, 61] rfl
  have hD := hD.sub (ws' := [((a 0), f_x a), ((a 12), .inl (g 2, 40, .inl (fun _ => 0))), ((a 18), .inl (g 0, 40, .inl (fun _ => (-1)))), ((a 19), .inl (g 1, 40, .inr (.inl (fun _ => 0)))), ((a 1), f_net a), ((a 200), f_m a g), ((a 201), .inr (5, [.int 0, .ref (g 100), .int 0])), ((a 202), .inr (5, [.int 0, .ref (g 100), .int 0])), (o1, .inl (g 1, 1, .inr (.inl (fun _ => 0))))]) [0, 1, 2, 3, 5, 26, 27, 28, 61] (by decide) rfl
  refine lv_aload_n hx hb dL_law_340 rfl (lv_at hl 1 rfl) ?_
  refine lv_aload_n hx hb dL_law_341 rfl (lv_at hl 3 rfl) ?_
  have hPc : va_P D vwCl [(o1, .inl (g 1, 1, .inr (.inl (fun _ => 0)))), ((a 0), f_x a), ((a 1), f_net a), ((a 12), .inl (g 2, 40, .inl (fun _ => 0))), ((a 19), .inl (g 1, 40, .inr (.inl (fun _ => 0)))), ((a 18), .inl (g 0, 40, .inl (fun _ => (-1))))] _ := hP.sub (ws' := [(o1, .inl (g 1, 1, .inr (.inl (fun _ => 0)))), ((a 0), f_x a), ((a 1), f_net a), ((a 12), .inl (g 2, 40, .inl (fun _ => 0))), ((a 19), .inl (g 1, 40, .inr (.inl (fun _ => 0)))), ((a 18), .inl (g 0, 40, .inl (fun _ => (-1))))]) [8, 0, 4, 1, 3, 2] rfl
  have hDc : va_D (fun q => z0 ≤ q) [(o1, .inl (g 1, 1, .inr (.inl (fun _ => 0)))), ((a 0), f_x a), ((a 1), f_net a), ((a 12), .inl (g 2, 40, .inl (fun _ => 0))), ((a 19), .inl (g 1, 40, .inr (.inl (fun _ => 0)))), ((a 18), .inl (g 0, 40, .inl (fun _ => (-1))))] := (hD.to hAz).pick (ws' := [(o1, .inl (g 1, 1, .inr (.inl (fun _ => 0)))), ((a 0), f_x a), ((a 1), f_net a), ((a 12), .inl (g 2, 40, .inl (fun _ => 0))), ((a 19), .inl (g 1, 40, .inr (.inl (fun _ => 0)))), ((a 18), .inl (g 0, 40, .inl (fun _ => (-1))))]) [8, 0, 4, 1, 3, 2] (by decide) rfl
  have hFc := va_free (wc := [(o1, .inl (g 1, 1, .inr (.inl (fun _ => 0)))), ((a 0), f_x a), ((a 1), f_net a), ((a 12), .inl (g 2, 40, .inl (fun _ => 0))), ((a 19), .inl (g 1, 40, .inr (.inl (fun _ => 0)))), ((a 18), .inl (g 0, 40, .inl (fun _ => (-1))))]) hD hS hA [8, 0, 4, 1, 3, 2] rfl
  refine va_calli (vx_runSW (As := [.ref (a 0), .ref o1]) (rest := []) ⟨hx, hb, hml, hown, ht⟩ (k_L_input l D g z0 _ a o1) (vx_cwSW 2 ht (gS w_764 w_766 w_767 w_765) rfl rfl rfl (by decide +kernel) (le2 rfl rfl)) ⟨PP.blind, PP.mk' hK hZ hz hAz hS hPc hDc⟩ rfl rfl hl.1 rfl (lv_room (Nat.le_of_ble_eq_true rfl)) dL_law_342 (le2 rfl rfl)) hS (fun q _ h => hFc q h) hFc (fun r u t H locs ht1 hvm hw hB hz1 hk1 hS => ?_)
  obtain ⟨rfl, hw⟩ := hw
  obtain ⟨hP1, hD1⟩ := hB
  rw [ht1] at hP1
  obtain ⟨hP, hD⟩ := va_join (wr := [((a 200), f_m a g), ((a 201), .inr (5, [.int 0, .ref (g 100), .int 0])), ((a 202), .inr (5, [.int 0, .ref (g 100), .int 0]))]) (w1 := [(o1, .inl (g 1, 1, .inr (.inl (fun _ => 0))))]) hP hD [8, 0, 4, 1, 3, 2] [5, 6, 7] rfl rfl (by decide) (by decide) hk1 hFc hP1 hD1
  have hP : va_P D vwCl [((a 200), f_m a g), ((a 201), .inr (5, [.int 0, .ref (g 100), .int 0])), ((a 202), .inr (5, [.int 0, .ref (g 100), .int 0])), (o1, .inl (g 1, 1, .inr (.inl (fun _ => 0))))] H := hP
  have hD : va_D (va_A [] s.heap.size) [((a 200), f_m a g), ((a 201), .inr (5, [.int 0, .ref (g 100), .int 0])), ((a 202), .inr (5, [.int 0, .ref (g 100), .int 0])), (o1, .inl (g 1, 1, .inr (.inl (fun _ => 0))))] := hD
  refine lv_istore (lv' := [(6, .int 0), (0, .ref b), (1, .ref (a 0)), (2, .ref (a 200)), (3, .ref o1), (4, .ref o2), (5, .int 0)]) hx hb dL_law_345 hl (by decide) rfl (fun ls hl => ?_)
  refine lv_aload_n hx hb dL_law_347 rfl (lv_at hl 3 rfl) ?_
  have hPc : va_P D vwCl [((a 200), f_m a g), ((a 201), .inr (5, [.int 0, .ref (g 100), .int 0])), ((a 202), .inr (5, [.int 0, .ref (g 100), .int 0]))] _ := hP.sub (ws' := [((a 200), f_m a g), ((a 201), .inr (5, [.int 0, .ref (g 100), .int 0])), ((a 202), .inr (5, [.int 0, .ref (g 100), .int 0]))]) [0, 1, 2] rfl
  have hDc : va_D (fun q => z0 ≤ q) [((a 200), f_m a g), ((a 201), .inr (5, [.int 0, .ref (g 100), .int 0])), ((a 202), .inr (5, [.int 0, .ref (g 100), .int 0]))] := (hD.to hAz).pick (ws' := [((a 200), f_m a g), ((a 201), .inr (5, [.int 0, .ref (g 100), .int 0])), ((a 202), .inr (5, [.int 0, .ref (g 100), .int 0]))]) [0, 1, 2] (by decide) rfl
  have hFc := va_free (wc := [((a 200), f_m a g), ((a 201), .inr (5, [.int 0, .ref (g 100), .int 0])), ((a 202), .inr (5, [.int 0, .ref (g 100), .int 0]))]) hD hS hA [0, 1, 2] rfl
  refine va_calli (va_runV (As := []) (rest := []) ⟨hx, hb, hml, hown, ht⟩ (k_X15_input l D g z0 _ a) (cwV 0 ht (gV w_768 w_770 w_771 w_334 w_769) rfl rfl rfl (by decide +kernel) (le2 rfl rfl)) ⟨PP.blind, va_recv hK.1 hP (ci := 21) (q0 := 0) rfl rfl, PP.mk' hK hZ hz hAz hS hPc hDc⟩ rfl rfl hl.1 rfl (lv_room (Nat.le_of_ble_eq_true rfl)) dL_law_348 (le2 rfl rfl)) hS (fun q _ h => hFc q h) hFc (fun r u t H locs ht1 hvm hw hB hz1 hk1 hS => ?_)
  obtain ⟨rfl, hw⟩ := hw
  obtain ⟨hP1, hD1⟩ := hB
  rw [ht1] at hP1
  obtain ⟨hP, hD⟩ := va_join (wr := [(o1, .inl (g 1, 1, .inr (.inl (fun _ => 0))))]) (w1 := [((a 200), f_m a g)]) hP hD [0, 1, 2] [3] rfl rfl (by decide) (by decide) hk1 hFc hP1 hD1
  have hP : va_P D vwCl [(o1, .inl (g 1, 1, .inr (.inl (fun _ => 0)))), ((a 200), f_m a g)] H := hP
  have hD : va_D (va_A [] s.heap.size) [(o1, .inl (g 1, 1, .inr (.inl (fun _ => 0)))), ((a 200), f_m a g)] := hD
  refine lv_istore (lv' := [(7, .int 0), (6, .int 0), (0, .ref b), (1, .ref (a 0)), (2, .ref (a 200)), (3, .ref o1), (4, .ref o2), (5, .int 0)]) hx hb dL_law_351 hl (by decide) rfl (fun ls hl => ?_)
  refine lv_aload_n hx hb dL_law_353 rfl (lv_at hl 4 rfl) ?_
  have hPc : va_P D vwCl [((a 200), f_m a g)] _ := hP.sub (ws' := [((a 200), f_m a g)]) [1] rfl
  have hDc : va_D (fun q => z0 ≤ q) [((a 200), f_m a g)] := (hD.to hAz).pick (ws' := [((a 200), f_m a g)]) [1] (by decide) rfl
  have hFc := va_free (wc := [((a 200), f_m a g)]) hD hS hA [1] rfl
  refine va_calli (va_runV (As := []) (rest := []) ⟨hx, hb, hml, hown, ht⟩ (k_X15_thrown l D g z0 _ a) (cwV 0 ht (gV w_772 w_774 w_775 w_334 w_773) rfl rfl rfl (by decide +kernel) (le2 rfl rfl)) ⟨PP.blind, va_recv hK.1 hP (ci := 21) (q0 := 1) rfl rfl, PP.mk' hK hZ hz hAz hS hPc hDc⟩ rfl rfl hl.1 rfl (lv_room (Nat.le_of_ble_eq_true rfl)) dL_law_354 (le2 rfl rfl)) hS (fun q _ h => hFc q h) hFc (fun r u t H locs ht1 hvm hw hB hz1 hk1 hS => ?_)
  obtain ⟨rfl, hw⟩ := hw
  obtain ⟨hP1, hD1⟩ := hB
  rw [ht1] at hP1
  obtain ⟨hP, hD⟩ := va_join (wr := [(o1, .inl (g 1, 1, .inr (.inl (fun _ => 0))))]) (w1 := [((a 200), f_m a g)]) hP hD [1] [0] rfl rfl (by decide) (by decide) hk1 hFc hP1 hD1
  have hP : va_P D vwCl [(o1, .inl (g 1, 1, .inr (.inl (fun _ => 0)))), ((a 200), f_m a g)] H := hP
  have hD : va_D (va_A [] s.heap.size) [(o1, .inl (g 1, 1, .inr (.inl (fun _ => 0)))), ((a 200), f_m a g)] := hD
  refine lv_iload hx hb dL_law_357 (lv_at hl 1 rfl) ?_
  refine lv_icmp_eq (tgt := 364) hx hb dL_law_359 (by decide) (fun c_1 => ?_) (fun c_1 => ?_)
  · refine lv_iload hx hb dL_law_364 (lv_at hl 1 rfl) ?_
    refine lv_if_ne (tgt := 381) hx hb dL_law_366 (by decide) (fun c_2 => ?_) (fun c_2 => ?_)
    · exact absurd c_2 (by decide)
    · refine lv_aload_n hx hb dL_law_369 rfl (lv_at hl 5 rfl) ?_
      refine lv_iconst (v := 0) hx hb dL_law_370 (by decide) ?_
      refine va_lald hx hb hK.1 hP 0 1 rfl rfl (by unfold vp_in; decide) dL_law_371 ?_
      refine r_topl (v := 0) (by decide) ?_
      refine lv_iload hx hb dL_law_372 (lv_at hl 0 rfl) ?_
      refine lv_i2l (v := 0) hx hb dL_law_374 (by decide) ?_
      refine W.lcmp hx hb dL_law_375 ?_
      refine r_topi (v := 0) (by decide) ?_
      refine lv_if_eq (tgt := 381) hx hb dL_law_376 (by decide) (fun c_3 => ?_) (fun c_3 => ?_)
      · refine lv_goto (tgt := 4264) hx hb dL_law_381 (by decide) ?_
        refine W.widen (k := 200 + 300) (n := 8000 + 2000) (Nat.le_of_ble_eq_true rfl) (Nat.le_of_ble_eq_true rfl) ?_
        exact kk _ _ _ hS (lv_sub hl [7, 2] rfl)
      · exact absurd c_3 (by decide)
  · exact absurd c_1 (by decide)
set_option maxHeartbeats 4000000 in
set_option maxRecDepth 100000 in
theorem lw_case_1 {p : Program} {l : Launch} {e : Env} {s : State} {m : MethodId} {below : List Frame} {meth : Method} {c : Code} {H : Heap} {locs : List Loc} {ls : Array Slot} {Q : State → Prop} {D : va_G} {g : Nat → ClassId} {z0 b : Nat} {xs : Nat → Int32} {a : Nat → Nat} {o1 o2 : Nat} (hfl : l.stackTraces = false) (hx : p.tables.exec = Jvm.exec) (hb : c.code = cL_law) (hml : c.maxLocals = 9) (hown : s.vm.findClass RL = some m.cls) (ht : ∀ w ∈ TG, w.before #[Value.ref b] s = true) (hX : va_X b 6 xs s s.heap) (hbl : b < s.heap.size) (hbA : ¬ va_A [] s.heap.size b) (hK : KK D g s) (hZ : ZZ g z0 s) (hz : z0 ≤ s.heap.size) (hAz : ∀ q, va_A [] s.heap.size q → z0 ≤ q) (hP : va_P D vwCl (lwW a g o1 o2) H) (hD : va_D (va_A [] s.heap.size) (lwW a g o1 o2)) (hS : va_S (va_A [] s.heap.size) s.heap H locs) (hl : lv_has ls 9 [(0, .ref b), (1, .ref (a 0)), (2, .ref (a 200)), (3, .ref o1), (4, .ref o2), (5, .int 0)])
    (kk : ∀ (H : Heap) (locs : List Loc) (ls : Array Slot), va_S (va_A [] s.heap.size) s.heap H locs → lv_has ls 9 [(5, .int 0), (0, .ref b)] → W p l e room_1 s m #[Value.ref b] below meth c H locs (200 + 300) (8000 + 2000) Q (F0 m 4264 ls [])) :
    W p l e room_1 s m #[Value.ref b] below meth c H locs 200 8000 Q (F0 m 384 ls []) := by
  have hA : ∀ q : Nat, s.heap.size ≤ q → va_A [] s.heap.size q := Anw
  have hP := hP.sub (ws' := [((a 0), f_x a), ((a 12), .inl (g 2, 40, .inl (fun _ => 0))), ((a 18), .inl (g 0, 40, .inl (fun _ => (-1)))), ((a 19), .inl (g 1, 40, .inr (.inl (fun _ => 0)))), ((a 20), .inl (g 0, 12, .inl (fun _ => 0))), ((a 1), f_net a), ((a 200), f_m a g), ((a 201), .inr (5, [.int 0, .ref (g 100), .int 0])), ((a 202), .inr (5, [.int 0, .ref (g 100), .int 0])), ((a 203), .inr (5, [.int 0, .ref (g 100), .int 0])), (o1, .inl (g 1, 1, .inr (.inl (fun _ => 0))))]) [0, 1, 2, 3, 4, 5, 26, 27, 28, 29, 61] rfl
  have hD := hD.sub (ws' := [((a 0), f_x a), ((a 12), .inl (g 2, 40, .inl (fun _ => 0))), ((a 18), .inl (g 0, 40, .inl (fun _ => (-1)))), ((a 19), .inl (g 1, 40, .inr (.inl (fun _ => 0)))), ((a 20), .inl (g 0, 12, .inl (fun _ => 0))), ((a 1), f_net a), ((a 200), f_m a g), ((a 201), .inr (5, [.int 0, .ref (g 100), .int 0])), ((a 202), .inr (5, [.int 0, .ref (g 100), .int 0])), ((a 203), .inr (5, [.int 0, .ref (g 100), .int 0])), (o1, .inl (g 1, 1, .inr (.inl (fun _ => 0))))]) [0, 1, 2, 3, 4, 5, 26, 27, 28, 29, 61] (by decide) rfl
  refine lv_aload_n hx hb dL_law_384 rfl (lv_at hl 1 rfl) ?_
  refine lv_aload_n hx hb dL_law_385 rfl (lv_at hl 3 rfl) ?_
  have hPc : va_P D vwCl [(o1, .inl (g 1, 1, .inr (.inl (fun _ => 0)))), ((a 0), f_x a), ((a 1), f_net a), ((a 12), .inl (g 2, 40, .inl (fun _ => 0))), ((a 19), .inl (g 1, 40, .inr (.inl (fun _ => 0)))), ((a 18), .inl (g 0, 40, .inl (fun _ => (-1)))), ((a 20), .inl (g 0, 12, .inl (fun _ => 0)))] _ := hP.sub (ws' := [(o1, .inl (g 1, 1, .inr (.inl (fun _ => 0)))), ((a 0), f_x a), ((a 1), f_net a), ((a 12), .inl (g 2, 40, .inl (fun _ => 0))), ((a 19), .inl (g 1, 40, .inr (.inl (fun _ => 0)))), ((a 18), .inl (g 0, 40, .inl (fun _ => (-1)))), ((a 20), .inl (g 0, 12, .inl (fun _ => 0)))]) [10, 0, 5, 1, 3, 2, 4] rfl
  have hDc : va_D (fun q => z0 ≤ q) [(o1, .inl (g 1, 1, .inr (.inl (fun _ => 0)))), ((a 0), f_x a), ((a 1), f_net a), ((a 12), .inl (g 2, 40, .inl (fun _ => 0))), ((a 19), .inl (g 1, 40, .inr (.inl (fun _ => 0)))), ((a 18), .inl (g 0, 40, .inl (fun _ => (-1)))), ((a 20), .inl (g 0, 12, .inl (fun _ => 0)))] := (hD.to hAz).pick (ws' := [(o1, .inl (g 1, 1, .inr (.inl (fun _ => 0)))), ((a 0), f_x a), ((a 1), f_net a), ((a 12), .inl (g 2, 40, .inl (fun _ => 0))), ((a 19), .inl (g 1, 40, .inr (.inl (fun _ => 0)))), ((a 18), .inl (g 0, 40, .inl (fun _ => (-1)))), ((a 20), .inl (g 0, 12, .inl (fun _ => 0)))]) [10, 0, 5, 1, 3, 2, 4] (by decide) rfl
  have hFc := va_free (wc := [(o1, .inl (g 1, 1, .inr (.inl (fun _ => 0)))), ((a 0), f_x a), ((a 1), f_net a), ((a 12), .inl (g 2, 40, .inl (fun _ => 0))), ((a 19), .inl (g 1, 40, .inr (.inl (fun _ => 0)))), ((a 18), .inl (g 0, 40, .inl (fun _ => (-1)))), ((a 20), .inl (g 0, 12, .inl (fun _ => 0)))]) hD hS hA [10, 0, 5, 1, 3, 2, 4] rfl
  refine va_calli (vx_runSW (As := [.ref (a 0), .ref o1]) (rest := []) ⟨hx, hb, hml, hown, ht⟩ (k_L_cell l D g z0 _ a o1) (vx_cwSW 2 ht (gS w_776 w_778 w_767 w_777) rfl rfl rfl (by decide +kernel) (le2 rfl rfl)) ⟨PP.blind, PP.mk' hK hZ hz hAz hS hPc hDc⟩ rfl rfl hl.1 rfl (lv_room (Nat.le_of_ble_eq_true rfl)) dL_law_386 (le2 rfl rfl)) hS (fun q _ h => hFc q h) hFc (fun r u t H locs ht1 hvm hw hB hz1 hk1 hS => ?_)
  obtain ⟨rfl, hw⟩ := hw
  obtain ⟨hP1, hD1⟩ := hB
  rw [ht1] at hP1
  obtain ⟨hP, hD⟩ := va_join (wr := [((a 200), f_m a g), ((a 201), .inr (5, [.int 0, .ref (g 100), .int 0])), ((a 202), .inr (5, [.int 0, .ref (g 100), .int 0])), ((a 203), .inr (5, [.int 0, .ref (g 100), .int 0]))]) (w1 := [(o1, .inl (g 1, 1, .inr (.inl (fun _ => 0))))]) hP hD [10, 0, 5, 1, 3, 2, 4] [6, 7, 8, 9] rfl rfl (by decide) (by decide) hk1 hFc hP1 hD1
  have hP : va_P D vwCl [((a 200), f_m a g), ((a 201), .inr (5, [.int 0, .ref (g 100), .int 0])), ((a 202), .inr (5, [.int 0, .ref (g 100), .int 0])), ((a 203), .inr (5, [.int 0, .ref (g 100), .int 0])), (o1, .inl (g 1, 1, .inr (.inl (fun _ => 0))))] H := hP
  have hD : va_D (va_A [] s.heap.size) [((a 200), f_m a g), ((a 201), .inr (5, [.int 0, .ref (g 100), .int 0])), ((a 202), .inr (5, [.int 0, .ref (g 100), .int 0])), ((a 203), .inr (5, [.int 0, .ref (g 100), .int 0])), (o1, .inl (g 1, 1, .inr (.inl (fun _ => 0))))] := hD
  refine lv_istore (lv' := [(6, .int 0), (0, .ref b), (1, .ref (a 0)), (2, .ref (a 200)), (3, .ref o1), (4, .ref o2), (5, .int 0)]) hx hb dL_law_389 hl (by decide) rfl (fun ls hl => ?_)
  refine lv_aload_n hx hb dL_law_391 rfl (lv_at hl 3 rfl) ?_
  have hPc : va_P D vwCl [((a 200), f_m a g), ((a 201), .inr (5, [.int 0, .ref (g 100), .int 0])), ((a 202), .inr (5, [.int 0, .ref (g 100), .int 0])), ((a 203), .inr (5, [.int 0, .ref (g 100), .int 0]))] _ := hP.sub (ws' := [((a 200), f_m a g), ((a 201), .inr (5, [.int 0, .ref (g 100), .int 0])), ((a 202), .inr (5, [.int 0, .ref (g 100), .int 0])), ((a 203), .inr (5, [.int 0, .ref (g 100), .int 0]))]) [0, 1, 2, 3] rfl
  have hDc : va_D (fun q => z0 ≤ q) [((a 200), f_m a g), ((a 201), .inr (5, [.int 0, .ref (g 100), .int 0])), ((a 202), .inr (5, [.int 0, .ref (g 100), .int 0])), ((a 203), .inr (5, [.int 0, .ref (g 100), .int 0]))] := (hD.to hAz).pick (ws' := [((a 200), f_m a g), ((a 201), .inr (5, [.int 0, .ref (g 100), .int 0])), ((a 202), .inr (5, [.int 0, .ref (g 100), .int 0])), ((a 203), .inr (5, [.int 0, .ref (g 100), .int 0]))]) [0, 1, 2, 3] (by decide) rfl
  have hFc := va_free (wc := [((a 200), f_m a g), ((a 201), .inr (5, [.int 0, .ref (g 100), .int 0])), ((a 202), .inr (5, [.int 0, .ref (g 100), .int 0])), ((a 203), .inr (5, [.int 0, .ref (g 100), .int 0]))]) hD hS hA [0, 1, 2, 3] rfl
  refine va_calli (va_runV (As := []) (rest := []) ⟨hx, hb, hml, hown, ht⟩ (k_X15_cell l D g z0 _ a) (cwV 0 ht (gV w_779 w_781 w_782 w_334 w_780) rfl rfl rfl (by decide +kernel) (le2 rfl rfl)) ⟨PP.blind, va_recv hK.1 hP (ci := 21) (q0 := 0) rfl rfl, PP.mk' hK hZ hz hAz hS hPc hDc⟩ rfl rfl hl.1 rfl (lv_room (Nat.le_of_ble_eq_true rfl)) dL_law_392 (le2 rfl rfl)) hS (fun q _ h => hFc q h) hFc (fun r u t H locs ht1 hvm hw hB hz1 hk1 hS => ?_)
  obtain ⟨rfl, hw⟩ := hw
  obtain ⟨hP1, hD1⟩ := hB
  rw [ht1] at hP1
  obtain ⟨hP, hD⟩ := va_join (wr := [(o1, .inl (g 1, 1, .inr (.inl (fun _ => 0))))]) (w1 := [((a 200), f_m a g)]) hP hD [0, 1, 2, 3] [4] rfl rfl (by decide) (by decide) hk1 hFc hP1 hD1
  have hP : va_P D vwCl [(o1, .inl (g 1, 1, .inr (.inl (fun _ => 0)))), ((a 200), f_m a g)] H := hP
  have hD : va_D (va_A [] s.heap.size) [(o1, .inl (g 1, 1, .inr (.inl (fun _ => 0)))), ((a 200), f_m a g)] := hD
  refine lv_istore (lv' := [(7, .int 0), (6, .int 0), (0, .ref b), (1, .ref (a 0)), (2, .ref (a 200)), (3, .ref o1), (4, .ref o2), (5, .int 0)]) hx hb dL_law_395 hl (by decide) rfl (fun ls hl => ?_)
  refine lv_aload_n hx hb dL_law_397 rfl (lv_at hl 4 rfl) ?_
  have hPc : va_P D vwCl [((a 200), f_m a g)] _ := hP.sub (ws' := [((a 200), f_m a g)]) [1] rfl
  have hDc : va_D (fun q => z0 ≤ q) [((a 200), f_m a g)] := (hD.to hAz).pick (ws' := [((a 200), f_m a g)]) [1] (by decide) rfl
  have hFc := va_free (wc := [((a 200), f_m a g)]) hD hS hA [1] rfl
  refine va_calli (va_runV (As := []) (rest := []) ⟨hx, hb, hml, hown, ht⟩ (k_X15_thrown l D g z0 _ a) (cwV 0 ht (gV w_772 w_774 w_775 w_334 w_773) rfl rfl rfl (by decide +kernel) (le2 rfl rfl)) ⟨PP.blind, va_recv hK.1 hP (ci := 21) (q0 := 1) rfl rfl, PP.mk' hK hZ hz hAz hS hPc hDc⟩ rfl rfl hl.1 rfl (lv_room (Nat.le_of_ble_eq_true rfl)) dL_law_398 (le2 rfl rfl)) hS (fun q _ h => hFc q h) hFc (fun r u t H locs ht1 hvm hw hB hz1 hk1 hS => ?_)
  obtain ⟨rfl, hw⟩ := hw
  obtain ⟨hP1, hD1⟩ := hB
  rw [ht1] at hP1
  obtain ⟨hP, hD⟩ := va_join (wr := [(o1, .inl (g 1, 1, .inr (.inl (fun _ => 0))))]) (w1 := [((a 200), f_m a g)]) hP hD [1] [0] rfl rfl (by decide) (by decide) hk1 hFc hP1 hD1
  have hP : va_P D vwCl [(o1, .inl (g 1, 1, .inr (.inl (fun _ => 0)))), ((a 200), f_m a g)] H := hP
  have hD : va_D (va_A [] s.heap.size) [(o1, .inl (g 1, 1, .inr (.inl (fun _ => 0)))), ((a 200), f_m a g)] := hD
  refine lv_iload hx hb dL_law_401 (lv_at hl 1 rfl) ?_
  refine lv_icmp_eq (tgt := 408) hx hb dL_law_403 (by decide) (fun c_1 => ?_) (fun c_1 => ?_)
  · refine lv_iload hx hb dL_law_408 (lv_at hl 1 rfl) ?_
    refine lv_if_ne (tgt := 425) hx hb dL_law_410 (by decide) (fun c_2 => ?_) (fun c_2 => ?_)
    · exact absurd c_2 (by decide)
    · refine lv_aload_n hx hb dL_law_413 rfl (lv_at hl 5 rfl) ?_
      refine lv_iconst (v := 0) hx hb dL_law_414 (by decide) ?_
      refine va_lald hx hb hK.1 hP 0 1 rfl rfl (by unfold vp_in; decide) dL_law_415 ?_
      refine r_topl (v := 0) (by decide) ?_
      refine lv_iload hx hb dL_law_416 (lv_at hl 0 rfl) ?_
      refine lv_i2l (v := 0) hx hb dL_law_418 (by decide) ?_
      refine W.lcmp hx hb dL_law_419 ?_
      refine r_topi (v := 0) (by decide) ?_
      refine lv_if_eq (tgt := 425) hx hb dL_law_420 (by decide) (fun c_3 => ?_) (fun c_3 => ?_)
      · refine lv_goto (tgt := 4264) hx hb dL_law_425 (by decide) ?_
        refine W.widen (k := 200 + 300) (n := 8000 + 2000) (Nat.le_of_ble_eq_true rfl) (Nat.le_of_ble_eq_true rfl) ?_
        exact kk _ _ _ hS (lv_sub hl [7, 2] rfl)
      · exact absurd c_3 (by decide)
  · exact absurd c_1 (by decide)
set_option maxHeartbeats 4000000 in
set_option maxRecDepth 100000 in
theorem k_X15_thrown_v1 (l : Launch) (D : va_G) (g : Nat → ClassId) (z0 sz : Nat) (a : Nat → Nat) : Met l yX15_thrown (.code yX15_thrown cX15_thrown 1 (some .int) :: TG) (rmk 0 0 0 0) (va_Pc [.ref (a 200)] (PP D g z0 sz [((a 200), .inr (21, [.int 2, .ref (a 201), .ref (a 202), .ref (a 203), .ref (a 204), .ref (a 205), .ref (a 206), .int 0, .int 0, .int 0, .int 0, .ref (a 208), .ref (a 209), .ref (a 210), .ref (a 211), .ref (a 212), .int 4, .int 12, .int (-1), .int 0, .ref (g 200), .ref (a 213), .int 0, .int 97, .ref (a 214), .ref (a 215), .ref (a 207), .null, .int 0]))])) (va_Qi (fun (r : Int32) (u : Unit) => (r = 2) ∧ True) (fun (u : Unit) (t : State) => va_P D vwCl [((a 200), .inr (21, [.int 2, .ref (a 201), .ref (a 202), .ref (a 203), .ref (a 204), .ref (a 205), .ref (a 206), .int 0, .int 0, .int 0, .int 0, .ref (a 208), .ref (a 209), .ref (a 210), .ref (a 211), .ref (a 212), .int 4, .int 12, .int (-1), .int 0, .ref (g 200), .ref (a 213), .int 0, .int 97, .ref (a 214), .ref (a 215), .ref (a 207), .null, .int 0]))] t.heap ∧ va_D (va_A [((a 200), .inr (21, [.int 2, .ref (a 201), .ref (a 202), .ref (a 203), .ref (a 204), .ref (a 205), .ref (a 206), .int 0, .int 0, .int 0, .int 0, .ref (a 208), .ref (a 209), .ref (a 210), .ref (a 211), .ref (a 212), .int 4, .int 12, .int (-1), .int 0, .ref (g 200), .ref (a 213), .int 0, .int 97, .ref (a 214), .ref (a 215), .ref (a 207), .null, .int 0]))] sz) [((a 200), .inr (21, [.int 2, .ref (a 201), .ref (a 202), .ref (a 203), .ref (a 204), .ref (a 205), .ref (a 206), .int 0, .int 0, .int 0, .int 0, .ref (a 208), .ref (a 209), .ref (a 210), .ref (a 211), .ref (a 212), .int 4, .int 12, .int (-1), .int 0, .ref (g 200), .ref (a 213), .int 0, .int 97, .ref (a 214), .ref (a 215), .ref (a 207), .null, .int 0]))]) (va_A [((a 200), .inr (21, [.int 2, .ref (a 201), .ref (a 202), .ref (a 203), .ref (a 204), .ref (a 205), .ref (a 206), .int 0, .int 0, .int 0, .int 0, .ref (a 208), .ref (a 209), .ref (a 210), .ref (a 211), .ref (a 212), .int 4, .int 12, .int (-1), .int 0, .ref (g 200), .ref (a 213), .int 0, .int 97, .ref (a 214), .ref (a 215), .ref (a 207), .null, .int 0]))] sz)) 0 0 (va_A [((a 200), .inr (21, [.int 2, .ref (a 201), .ref (a 202), .ref (a 203), .ref (a 204), .ref (a 205), .ref (a 206), .int 0, .int 0, .int 0, .int 0, .ref (a 208), .ref (a 209), .ref (a 210), .ref (a 211), .ref (a 212), .int 4, .int 12, .int (-1), .int 0, .ref (g 200), .ref (a 213), .int 0, .int 97, .ref (a 214), .ref (a 215), .ref (a 207), .null, .int 0]))] sz) := by
  refine met0 (cc := cX15_thrown) (n := 1) (by decide) (Nat.le_of_ble_eq_true rfl) ?_
  intro p e s m args below meth c hx hb hr hml hown ht hlocks hnm hP0 hD0 hK hZ hsz hz ls hl
  subst hsz
  have hA : ∀ q : Nat, s.heap.size ≤ q → va_A [((a 200), .inr (21, [.int 2, .ref (a 201), .ref (a 202), .ref (a 203), .ref (a 204), .ref (a 205), .ref (a 206), .int 0, .int 0, .int 0, .int 0, .ref (a 208), .ref (a 209), .ref (a 210), .ref (a 211), .ref (a 212), .int 4, .int 12, .int (-1), .int 0, .ref (g 200), .ref (a 213), .int 0, .int 97, .ref (a 214), .ref (a 215), .ref (a 207), .null, .int 0]))] s.heap.size q := Anw
  have hAz : ∀ q, va_A [((a 200), .inr (21, [.int 2, .ref (a 201), .ref (a 202), .ref (a 203), .ref (a 204), .ref (a 205), .ref (a 206), .int 0, .int 0, .int 0, .int 0, .ref (a 208), .ref (a 209), .ref (a 210), .ref (a 211), .ref (a 212), .int 4, .int 12, .int (-1), .int 0, .ref (g 200), .ref (a 213), .int 0, .int 97, .ref (a 214), .ref (a 215), .ref (a 207), .null, .int 0]))] s.heap.size q → z0 ≤ q := Awz hz hD0
  have hS : va_S (va_A [((a 200), .inr (21, [.int 2, .ref (a 201), .ref (a 202), .ref (a 203), .ref (a 204), .ref (a 205), .ref (a 206), .int 0, .int 0, .int 0, .int 0, .ref (a 208), .ref (a 209), .ref (a 210), .ref (a 211), .ref (a 212), .int 4, .int 12, .int (-1), .int 0, .ref (g 200), .ref (a 213), .int 0, .int 97, .ref (a 214), .ref (a 215), .ref (a 207), .null, .int 0]))] s.heap.size) s.heap s.heap [] := va_S.rf
  have hD : va_D (va_A [((a 200), .inr (21, [.int 2, .ref (a 201), .ref (a 202), .ref (a 203), .ref (a 204), .ref (a 205), .ref (a 206), .int 0, .int 0, .int 0, .int 0, .ref (a 208), .ref (a 209), .ref (a 210), .ref (a 211), .ref (a 212), .int 4, .int 12, .int (-1), .int 0, .ref (g 200), .ref (a 213), .int 0, .int 97, .ref (a 214), .ref (a 215), .ref (a 207), .null, .int 0]))] s.heap.size) [((a 200), .inr (21, [.int 2, .ref (a 201), .ref (a 202), .ref (a 203), .ref (a 204), .ref (a 205), .ref (a 206), .int 0, .int 0, .int 0, .int 0, .ref (a 208), .ref (a 209), .ref (a 210), .ref (a 211), .ref (a 212), .int 4, .int 12, .int (-1), .int 0, .ref (g 200), .ref (a 213), .int 0, .int 97, .ref (a 214), .ref (a 215), .ref (a 207), .null, .int 0]))] := hD0.self
  have hP : va_P D vwCl [((a 200), .inr (21, [.int 2, .ref (a 201), .ref (a 202), .ref (a 203), .ref (a 204), .ref (a 205), .ref (a 206), .int 0, .int 0, .int 0, .int 0, .ref (a 208), .ref (a 209), .ref (a 210), .ref (a 211), .ref (a 212), .int 4, .int 12, .int (-1), .int 0, .ref (g 200), .ref (a 213), .int 0, .int 97, .ref (a 214), .ref (a 215), .ref (a 207), .null, .int 0]))] s.heap := hP0
  have hl : lv_has ls 1 [(0, .ref (a 200))] := hl
  refine lv_aload_n hx hb dX15_thrown_0 rfl (lv_at hl 0 rfl) ?_
  refine va_get (D := D) (ci := 21) (v := .int 2) (C := RX15) (T := TX15) (N := 29) hx hb ht in_X15 hown hK.1 hP 0 rfl rfl 0 (by decide) (ht _ w_303) (fun _ h9 => h9) rfl dX15_thrown_1 ?_
  have hP9 := hP.sub (ws' := [((a 200), .inr (21, [.int 2, .ref (a 201), .ref (a 202), .ref (a 203), .ref (a 204), .ref (a 205), .ref (a 206), .int 0, .int 0, .int 0, .int 0, .ref (a 208), .ref (a 209), .ref (a 210), .ref (a 211), .ref (a 212), .int 4, .int 12, .int (-1), .int 0, .ref (g 200), .ref (a 213), .int 0, .int 97, .ref (a 214), .ref (a 215), .ref (a 207), .null, .int 0]))]) [0] rfl
  have hD9 := hD.sub (ws' := [((a 200), .inr (21, [.int 2, .ref (a 201), .ref (a 202), .ref (a 203), .ref (a 204), .ref (a 205), .ref (a 206), .int 0, .int 0, .int 0, .int 0, .ref (a 208), .ref (a 209), .ref (a 210), .ref (a 211), .ref (a 212), .int 4, .int 12, .int (-1), .int 0, .ref (g 200), .ref (a 213), .int 0, .int 97, .ref (a 214), .ref (a 215), .ref (a 207), .null, .int 0]))]) [0] (by decide) rfl
  refine W.widen (k := 0) (n := 0) (Nat.le_of_ble_eq_true rfl) (Nat.le_of_ble_eq_true rfl) ?_
  exact W.iret (v := 2) hx hb hr (fun t ht9 hW9 => ⟨⟨2, (), rfl, ⟨rfl, trivial⟩, ⟨(by rw [ht9]; exact hP9), hD9⟩⟩, hS.F ht9⟩) hS.2.2 dX15_thrown_4 hlocks
set_option maxHeartbeats 4000000 in
set_option maxRecDepth 100000 in
theorem k_X15_thrown_v2 (l : Launch) (D : va_G) (g : Nat → ClassId) (z0 sz : Nat) (a : Nat → Nat) : Met l yX15_thrown (.code yX15_thrown cX15_thrown 1 (some .int) :: TG) (rmk 0 0 0 0) (va_Pc [.ref (a 200)] (PP D g z0 sz [((a 200), .inr (21, [.int 1, .ref (a 201), .ref (a 202), .ref (a 203), .ref (a 204), .ref (a 205), .ref (a 206), .int 0, .int 0, .int 0, .int 0, .ref (a 208), .ref (a 209), .ref (a 210), .ref (a 211), .ref (a 212), .int 4, .int 12, .int (-1), .int 0, .ref (g 200), .ref (a 213), .int 0, .int 97, .ref (a 214), .ref (a 215), .ref (a 207), .null, .int 0]))])) (va_Qi (fun (r : Int32) (u : Unit) => (r = 1) ∧ True) (fun (u : Unit) (t : State) => va_P D vwCl [((a 200), .inr (21, [.int 1, .ref (a 201), .ref (a 202), .ref (a 203), .ref (a 204), .ref (a 205), .ref (a 206), .int 0, .int 0, .int 0, .int 0, .ref (a 208), .ref (a 209), .ref (a 210), .ref (a 211), .ref (a 212), .int 4, .int 12, .int (-1), .int 0, .ref (g 200), .ref (a 213), .int 0, .int 97, .ref (a 214), .ref (a 215), .ref (a 207), .null, .int 0]))] t.heap ∧ va_D (va_A [((a 200), .inr (21, [.int 1, .ref (a 201), .ref (a 202), .ref (a 203), .ref (a 204), .ref (a 205), .ref (a 206), .int 0, .int 0, .int 0, .int 0, .ref (a 208), .ref (a 209), .ref (a 210), .ref (a 211), .ref (a 212), .int 4, .int 12, .int (-1), .int 0, .ref (g 200), .ref (a 213), .int 0, .int 97, .ref (a 214), .ref (a 215), .ref (a 207), .null, .int 0]))] sz) [((a 200), .inr (21, [.int 1, .ref (a 201), .ref (a 202), .ref (a 203), .ref (a 204), .ref (a 205), .ref (a 206), .int 0, .int 0, .int 0, .int 0, .ref (a 208), .ref (a 209), .ref (a 210), .ref (a 211), .ref (a 212), .int 4, .int 12, .int (-1), .int 0, .ref (g 200), .ref (a 213), .int 0, .int 97, .ref (a 214), .ref (a 215), .ref (a 207), .null, .int 0]))]) (va_A [((a 200), .inr (21, [.int 1, .ref (a 201), .ref (a 202), .ref (a 203), .ref (a 204), .ref (a 205), .ref (a 206), .int 0, .int 0, .int 0, .int 0, .ref (a 208), .ref (a 209), .ref (a 210), .ref (a 211), .ref (a 212), .int 4, .int 12, .int (-1), .int 0, .ref (g 200), .ref (a 213), .int 0, .int 97, .ref (a 214), .ref (a 215), .ref (a 207), .null, .int 0]))] sz)) 0 0 (va_A [((a 200), .inr (21, [.int 1, .ref (a 201), .ref (a 202), .ref (a 203), .ref (a 204), .ref (a 205), .ref (a 206), .int 0, .int 0, .int 0, .int 0, .ref (a 208), .ref (a 209), .ref (a 210), .ref (a 211), .ref (a 212), .int 4, .int 12, .int (-1), .int 0, .ref (g 200), .ref (a 213), .int 0, .int 97, .ref (a 214), .ref (a 215), .ref (a 207), .null, .int 0]))] sz) := by
  refine met0 (cc := cX15_thrown) (n := 1) (by decide) (Nat.le_of_ble_eq_true rfl) ?_
  intro p e s m args below meth c hx hb hr hml hown ht hlocks hnm hP0 hD0 hK hZ hsz hz ls hl
  subst hsz
  have hA : ∀ q : Nat, s.heap.size ≤ q → va_A [((a 200), .inr (21, [.int 1, .ref (a 201), .ref (a 202), .ref (a 203), .ref (a 204), .ref (a 205), .ref (a 206), .int 0, .int 0, .int 0, .int 0, .ref (a 208), .ref (a 209), .ref (a 210), .ref (a 211), .ref (a 212), .int 4, .int 12, .int (-1), .int 0, .ref (g 200), .ref (a 213), .int 0, .int 97, .ref (a 214), .ref (a 215), .ref (a 207), .null, .int 0]))] s.heap.size q := Anw
  have hAz : ∀ q, va_A [((a 200), .inr (21, [.int 1, .ref (a 201), .ref (a 202), .ref (a 203), .ref (a 204), .ref (a 205), .ref (a 206), .int 0, .int 0, .int 0, .int 0, .ref (a 208), .ref (a 209), .ref (a 210), .ref (a 211), .ref (a 212), .int 4, .int 12, .int (-1), .int 0, .ref (g 200), .ref (a 213), .int 0, .int 97, .ref (a 214), .ref (a 215), .ref (a 207), .null, .int 0]))] s.heap.size q → z0 ≤ q := Awz hz hD0
  have hS : va_S (va_A [((a 200), .inr (21, [.int 1, .ref (a 201), .ref (a 202), .ref (a 203), .ref (a 204), .ref (a 205), .ref (a 206), .int 0, .int 0, .int 0, .int 0, .ref (a 208), .ref (a 209), .ref (a 210), .ref (a 211), .ref (a 212), .int 4, .int 12, .int (-1), .int 0, .ref (g 200), .ref (a 213), .int 0, .int 97, .ref (a 214), .ref (a 215), .ref (a 207), .null, .int 0]))] s.heap.size) s.heap s.heap [] := va_S.rf
  have hD : va_D (va_A [((a 200), .inr (21, [.int 1, .ref (a 201), .ref (a 202), .ref (a 203), .ref (a 204), .ref (a 205), .ref (a 206), .int 0, .int 0, .int 0, .int 0, .ref (a 208), .ref (a 209), .ref (a 210), .ref (a 211), .ref (a 212), .int 4, .int 12, .int (-1), .int 0, .ref (g 200), .ref (a 213), .int 0, .int 97, .ref (a 214), .ref (a 215), .ref (a 207), .null, .int 0]))] s.heap.size) [((a 200), .inr (21, [.int 1, .ref (a 201), .ref (a 202), .ref (a 203), .ref (a 204), .ref (a 205), .ref (a 206), .int 0, .int 0, .int 0, .int 0, .ref (a 208), .ref (a 209), .ref (a 210), .ref (a 211), .ref (a 212), .int 4, .int 12, .int (-1), .int 0, .ref (g 200), .ref (a 213), .int 0, .int 97, .ref (a 214), .ref (a 215), .ref (a 207), .null, .int 0]))] := hD0.self
  have hP : va_P D vwCl [((a 200), .inr (21, [.int 1, .ref (a 201), .ref (a 202), .ref (a 203), .ref (a 204), .ref (a 205), .ref (a 206), .int 0, .int 0, .int 0, .int 0, .ref (a 208), .ref (a 209), .ref (a 210), .ref (a 211), .ref (a 212), .int 4, .int 12, .int (-1), .int 0, .ref (g 200), .ref (a 213), .int 0, .int 97, .ref (a 214), .ref (a 215), .ref (a 207), .null, .int 0]))] s.heap := hP0
  have hl : lv_has ls 1 [(0, .ref (a 200))] := hl
  refine lv_aload_n hx hb dX15_thrown_0 rfl (lv_at hl 0 rfl) ?_
  refine va_get (D := D) (ci := 21) (v := .int 1) (C := RX15) (T := TX15) (N := 29) hx hb ht in_X15 hown hK.1 hP 0 rfl rfl 0 (by decide) (ht _ w_303) (fun _ h9 => h9) rfl dX15_thrown_1 ?_
  have hP9 := hP.sub (ws' := [((a 200), .inr (21, [.int 1, .ref (a 201), .ref (a 202), .ref (a 203), .ref (a 204), .ref (a 205), .ref (a 206), .int 0, .int 0, .int 0, .int 0, .ref (a 208), .ref (a 209), .ref (a 210), .ref (a 211), .ref (a 212), .int 4, .int 12, .int (-1), .int 0, .ref (g 200), .ref (a 213), .int 0, .int 97, .ref (a 214), .ref (a 215), .ref (a 207), .null, .int 0]))]) [0] rfl
  have hD9 := hD.sub (ws' := [((a 200), .inr (21, [.int 1, .ref (a 201), .ref (a 202), .ref (a 203), .ref (a 204), .ref (a 205), .ref (a 206), .int 0, .int 0, .int 0, .int 0, .ref (a 208), .ref (a 209), .ref (a 210), .ref (a 211), .ref (a 212), .int 4, .int 12, .int (-1), .int 0, .ref (g 200), .ref (a 213), .int 0, .int 97, .ref (a 214), .ref (a 215), .ref (a 207), .null, .int 0]))]) [0] (by decide) rfl
  refine W.widen (k := 0) (n := 0) (Nat.le_of_ble_eq_true rfl) (Nat.le_of_ble_eq_true rfl) ?_
  exact W.iret (v := 1) hx hb hr (fun t ht9 hW9 => ⟨⟨1, (), rfl, ⟨rfl, trivial⟩, ⟨(by rw [ht9]; exact hP9), hD9⟩⟩, hS.F ht9⟩) hS.2.2 dX15_thrown_4 hlocks
set_option maxHeartbeats 4000000 in
set_option maxRecDepth 100000 in
theorem lw_case_2 {p : Program} {l : Launch} {e : Env} {s : State} {m : MethodId} {below : List Frame} {meth : Method} {c : Code} {H : Heap} {locs : List Loc} {ls : Array Slot} {Q : State → Prop} {D : va_G} {g : Nat → ClassId} {z0 b : Nat} {xs : Nat → Int32} {a : Nat → Nat} {o1 o2 : Nat} (hfl : l.stackTraces = false) (hx : p.tables.exec = Jvm.exec) (hb : c.code = cL_law) (hml : c.maxLocals = 9) (hown : s.vm.findClass RL = some m.cls) (ht : ∀ w ∈ TG, w.before #[Value.ref b] s = true) (hX : va_X b 6 xs s s.heap) (hbl : b < s.heap.size) (hbA : ¬ va_A [] s.heap.size b) (hK : KK D g s) (hZ : ZZ g z0 s) (hz : z0 ≤ s.heap.size) (hAz : ∀ q, va_A [] s.heap.size q → z0 ≤ q) (hP : va_P D vwCl (lwW a g o1 o2) H) (hD : va_D (va_A [] s.heap.size) (lwW a g o1 o2)) (hS : va_S (va_A [] s.heap.size) s.heap H locs) (hl : lv_has ls 9 [(0, .ref b), (1, .ref (a 0)), (2, .ref (a 200)), (3, .ref o1), (4, .ref o2), (5, .int 0)])
    (kk : ∀ (H : Heap) (locs : List Loc) (ls : Array Slot), va_S (va_A [] s.heap.size) s.heap H locs → lv_has ls 9 [(5, .int 0), (0, .ref b)] → W p l e room_1 s m #[Value.ref b] below meth c H locs (200 + 300) (8000 + 2000) Q (F0 m 4264 ls [])) :
    W p l e room_1 s m #[Value.ref b] below meth c H locs 200 8000 Q (F0 m 428 ls []) := by
  have hA : ∀ q : Nat, s.heap.size ≤ q → va_A [] s.heap.size q := Anw
  have hP := hP.sub (ws' := [((a 0), f_x a), ((a 1), f_net a), ((a 200), f_m a g), ((a 201), .inr (5, [.int 0, .ref (g 100), .int 0])), (o1, .inl (g 1, 1, .inr (.inl (fun _ => 0))))]) [0, 5, 26, 27, 61] rfl
  have hD := hD.sub (ws' := [((a 0), f_x a), ((a 1), f_net a), ((a 200), f_m a g), ((a 201), .inr (5, [.int 0, .ref (g 100), .int 0])), (o1, .inl (g 1, 1, .inr (.inl (fun _ => 0))))]) [0, 5, 26, 27, 61] (by decide) rfl
  refine lv_aload_n hx hb dL_law_428 rfl (lv_at hl 1 rfl) ?_
  refine lv_aload_n hx hb dL_law_429 rfl (lv_at hl 0 rfl) ?_
  refine lv_iload hx hb dL_law_430 (lv_at hl 5 rfl) ?_
  refine lv_iconst (v := 1) hx hb dL_law_432 (by decide) ?_
  refine lv_iadd hx hb dL_law_433 ?_
  refine r_topi (v := 1) (by decide) ?_
  refine va_sld hx hb hX hbl hbA hS (by unfold vp_in; decide) dL_law_434 ?_
  refine r_topi (v := xs 1) (congrArg xs (by decide)) ?_
  refine lv_i2c (v := ((xs 1).toUInt32 % 65536).toInt32) hx hb dL_law_435 rfl ?_
  refine lv_aload_n hx hb dL_law_436 rfl (lv_at hl 0 rfl) ?_
  refine lv_iload hx hb dL_law_437 (lv_at hl 5 rfl) ?_
  refine lv_iconst (v := 2) hx hb dL_law_439 (by decide) ?_
  refine lv_iadd hx hb dL_law_440 ?_
  refine r_topi (v := 2) (by decide) ?_
  refine va_sld hx hb hX hbl hbA hS (by unfold vp_in; decide) dL_law_441 ?_
  refine r_topi (v := xs 2) (congrArg xs (by decide)) ?_
  refine lv_aload_n hx hb dL_law_442 rfl (lv_at hl 0 rfl) ?_
  refine lv_iload hx hb dL_law_443 (lv_at hl 5 rfl) ?_
  refine lv_iconst (v := 3) hx hb dL_law_445 (by decide) ?_
  refine lv_iadd hx hb dL_law_446 ?_
  refine r_topi (v := 3) (by decide) ?_
  refine va_sld hx hb hX hbl hbA hS (by unfold vp_in; decide) dL_law_447 ?_
  refine r_topi (v := xs 3) (congrArg xs (by decide)) ?_
  refine lv_aload_n hx hb dL_law_448 rfl (lv_at hl 3 rfl) ?_
  have hPc : va_P D vwCl [(o1, .inl (g 1, 1, .inr (.inl (fun _ => 0)))), ((a 0), f_x a), ((a 1), f_net a)] _ := hP.sub (ws' := [(o1, .inl (g 1, 1, .inr (.inl (fun _ => 0)))), ((a 0), f_x a), ((a 1), f_net a)]) [4, 0, 1] rfl
  have hDc : va_D (fun q => z0 ≤ q) [(o1, .inl (g 1, 1, .inr (.inl (fun _ => 0)))), ((a 0), f_x a), ((a 1), f_net a)] := (hD.to hAz).pick (ws' := [(o1, .inl (g 1, 1, .inr (.inl (fun _ => 0)))), ((a 0), f_x a), ((a 1), f_net a)]) [4, 0, 1] (by decide) rfl
  have hFc := va_free (wc := [(o1, .inl (g 1, 1, .inr (.inl (fun _ => 0)))), ((a 0), f_x a), ((a 1), f_net a)]) hD hS hA [4, 0, 1] rfl
  refine va_calli (vx_runSW (As := [.ref (a 0), .int (((xs 1).toUInt32 % 65536).toInt32), .int (xs 2), .int (xs 3), .ref o1]) (rest := []) ⟨hx, hb, hml, hown, ht⟩ (k_L_gate l hfl D g z0 _ a (((xs 1).toUInt32 % 65536).toInt32) (xs 2) (xs 3) o1 (isC_i2c _)) (vx_cwSW 5 ht (gS w_783 w_785 w_767 w_784) rfl rfl rfl (by decide +kernel) (le2 rfl rfl)) ⟨PP.blind, PP.mk' hK hZ hz hAz hS hPc hDc⟩ rfl rfl hl.1 rfl (lv_room (Nat.le_of_ble_eq_true rfl)) dL_law_449 (le2 rfl rfl)) hS (fun q _ h => hFc q h) hFc (fun r u t H locs ht1 hvm hw hB hz1 hk1 hS => ?_)
  rcases hw with hw | hw
  · obtain ⟨rfl, hw⟩ := hw
    rcases hw with hw | hw
    · have c_1 := hw
      obtain ⟨hP1, hD1⟩ := hB
      rw [ht1] at hP1
      obtain ⟨hP, hD⟩ := va_join (wr := [((a 200), f_m a g), ((a 201), .inr (5, [.int 0, .ref (g 100), .int 0]))]) (w1 := [(o1, .inl (g 1, 1, .inr (.inl (fun _ => 0))))]) hP hD [4, 0, 1] [2, 3] rfl rfl (by decide) (by decide) hk1 hFc hP1 hD1
      have hP : va_P D vwCl [((a 200), f_m a g), ((a 201), .inr (5, [.int 0, .ref (g 100), .int 0])), (o1, .inl (g 1, 1, .inr (.inl (fun _ => 0))))] H := hP
      have hD : va_D (va_A [] s.heap.size) [((a 200), f_m a g), ((a 201), .inr (5, [.int 0, .ref (g 100), .int 0])), (o1, .inl (g 1, 1, .inr (.inl (fun _ => 0))))] := hD
      refine lv_istore (lv' := [(6, .int 2), (0, .ref b), (1, .ref (a 0)), (2, .ref (a 200)), (3, .ref o1), (4, .ref o2), (5, .int 0)]) hx hb dL_law_452 hl (by decide) rfl (fun ls hl => ?_)
      refine lv_aload_n hx hb dL_law_454 rfl (lv_at hl 3 rfl) ?_
      refine lv_aload_n hx hb dL_law_455 rfl (lv_at hl 1 rfl) ?_
      refine lv_iload hx hb dL_law_456 (lv_at hl 6 rfl) ?_
      refine lv_iconst (v := 1) hx hb dL_law_458 (by decide) ?_
      refine lv_iadd hx hb dL_law_459 ?_
      refine r_topi (v := 1) (by decide) ?_
      refine va_sld hx hb hX hbl hbA hS (by unfold vp_in; decide) dL_law_460 ?_
      refine r_topi (v := xs 1) (congrArg xs (by decide)) ?_
      refine lv_i2c (v := ((xs 1).toUInt32 % 65536).toInt32) hx hb dL_law_461 rfl ?_
      refine lv_aload_n hx hb dL_law_462 rfl (lv_at hl 1 rfl) ?_
      refine lv_iload hx hb dL_law_463 (lv_at hl 6 rfl) ?_
      refine lv_iconst (v := 2) hx hb dL_law_465 (by decide) ?_
      refine lv_iadd hx hb dL_law_466 ?_
      refine r_topi (v := 2) (by decide) ?_
      refine va_sld hx hb hX hbl hbA hS (by unfold vp_in; decide) dL_law_467 ?_
      refine r_topi (v := xs 2) (congrArg xs (by decide)) ?_
      refine lv_aload_n hx hb dL_law_468 rfl (lv_at hl 1 rfl) ?_
      refine lv_iload hx hb dL_law_469 (lv_at hl 6 rfl) ?_
      refine lv_iconst (v := 3) hx hb dL_law_471 (by decide) ?_
      refine lv_iadd hx hb dL_law_472 ?_
      refine r_topi (v := 3) (by decide) ?_
      refine va_sld hx hb hX hbl hbA hS (by unfold vp_in; decide) dL_law_473 ?_
      refine r_topi (v := xs 3) (congrArg xs (by decide)) ?_
      have hPc : va_P D vwCl [((a 200), f_m a g), ((a 201), .inr (5, [.int 0, .ref (g 100), .int 0]))] _ := hP.sub (ws' := [((a 200), f_m a g), ((a 201), .inr (5, [.int 0, .ref (g 100), .int 0]))]) [0, 1] rfl
      have hDc : va_D (fun q => z0 ≤ q) [((a 200), f_m a g), ((a 201), .inr (5, [.int 0, .ref (g 100), .int 0]))] := (hD.to hAz).pick (ws' := [((a 200), f_m a g), ((a 201), .inr (5, [.int 0, .ref (g 100), .int 0]))]) [0, 1] (by decide) rfl
      have hFc := va_free (wc := [((a 200), f_m a g), ((a 201), .inr (5, [.int 0, .ref (g 100), .int 0]))]) hD hS hA [0, 1] rfl
      refine va_calli (va_runV (As := [.int (((xs 1).toUInt32 % 65536).toInt32), .int (xs 2), .int (xs 3)]) (rest := []) ⟨hx, hb, hml, hown, ht⟩ (k_X15_gate l D g z0 _ a (((xs 1).toUInt32 % 65536).toInt32) (xs 2) (xs 3) (isC_i2c _)) (cwV 3 ht (gV w_786 w_788 w_789 w_334 w_787) rfl rfl rfl (by decide +kernel) (le2 rfl rfl)) ⟨PP.blind, va_recv hK.1 hP (ci := 21) (q0 := 0) rfl rfl, PP.mk' hK hZ hz hAz hS hPc hDc⟩ rfl rfl hl.1 rfl (lv_room (Nat.le_of_ble_eq_true rfl)) dL_law_474 (le2 rfl rfl)) hS (fun q _ h => hFc q h) hFc (fun r u t H locs ht1 hvm hw hB hz1 hk1 hS => ?_)
      rcases hw with hw | hw
      · obtain ⟨rfl, rfl, hw⟩ := hw
        rcases hw with hw | hw | hw | hw | hw | hw | hw
        · have c_2 := hw
          exact absurd c_1 (by rw [c_2]; unfold gk2; decide)
        · obtain ⟨c_3, c_4, c_5⟩ := hw
          obtain ⟨hP1, hD1⟩ := hB
          rw [ht1] at hP1
          obtain ⟨hP, hD⟩ := va_join (wr := [(o1, .inl (g 1, 1, .inr (.inl (fun _ => 0))))]) (w1 := [((a 200), .inr (21, [.int 2, .ref (a 201), .ref (a 202), .ref (a 203), .ref (a 204), .ref (a 205), .ref (a 206), .int 0, .int 0, .int 0, .int 0, .ref (a 208), .ref (a 209), .ref (a 210), .ref (a 211), .ref (a 212), .int 4, .int 12, .int (-1), .int 0, .ref (g 200), .ref (a 213), .int 0, .int 97, .ref (a 214), .ref (a 215), .ref (a 207), .null, .int 0]))]) hP hD [0, 1] [2] rfl rfl (by decide) (by decide) hk1 hFc hP1 hD1
          have hP : va_P D vwCl [(o1, .inl (g 1, 1, .inr (.inl (fun _ => 0)))), ((a 200), .inr (21, [.int 2, .ref (a 201), .ref (a 202), .ref (a 203), .ref (a 204), .ref (a 205), .ref (a 206), .int 0, .int 0, .int 0, .int 0, .ref (a 208), .ref (a 209), .ref (a 210), .ref (a 211), .ref (a 212), .int 4, .int 12, .int (-1), .int 0, .ref (g 200), .ref (a 213), .int 0, .int 97, .ref (a 214), .ref (a 215), .ref (a 207), .null, .int 0]))] H := hP
          have hD : va_D (va_A [] s.heap.size) [(o1, .inl (g 1, 1, .inr (.inl (fun _ => 0)))), ((a 200), .inr (21, [.int 2, .ref (a 201), .ref (a 202), .ref (a 203), .ref (a 204), .ref (a 205), .ref (a 206), .int 0, .int 0, .int 0, .int 0, .ref (a 208), .ref (a 209), .ref (a 210), .ref (a 211), .ref (a 212), .int 4, .int 12, .int (-1), .int 0, .ref (g 200), .ref (a 213), .int 0, .int 97, .ref (a 214), .ref (a 215), .ref (a 207), .null, .int 0]))] := hD
          refine lv_istore (lv' := [(7, .int 0), (6, .int 2), (0, .ref b), (1, .ref (a 0)), (2, .ref (a 200)), (3, .ref o1), (4, .ref o2), (5, .int 0)]) hx hb dL_law_477 hl (by decide) rfl (fun ls hl => ?_)
          refine lv_aload_n hx hb dL_law_479 rfl (lv_at hl 4 rfl) ?_
          have hPc : va_P D vwCl [((a 200), .inr (21, [.int 2, .ref (a 201), .ref (a 202), .ref (a 203), .ref (a 204), .ref (a 205), .ref (a 206), .int 0, .int 0, .int 0, .int 0, .ref (a 208), .ref (a 209), .ref (a 210), .ref (a 211), .ref (a 212), .int 4, .int 12, .int (-1), .int 0, .ref (g 200), .ref (a 213), .int 0, .int 97, .ref (a 214), .ref (a 215), .ref (a 207), .null, .int 0]))] _ := hP.sub (ws' := [((a 200), .inr (21, [.int 2, .ref (a 201), .ref (a 202), .ref (a 203), .ref (a 204), .ref (a 205), .ref (a 206), .int 0, .int 0, .int 0, .int 0, .ref (a 208), .ref (a 209), .ref (a 210), .ref (a 211), .ref (a 212), .int 4, .int 12, .int (-1), .int 0, .ref (g 200), .ref (a 213), .int 0, .int 97, .ref (a 214), .ref (a 215), .ref (a 207), .null, .int 0]))]) [1] rfl
          have hDc : va_D (fun q => z0 ≤ q) [((a 200), .inr (21, [.int 2, .ref (a 201), .ref (a 202), .ref (a 203), .ref (a 204), .ref (a 205), .ref (a 206), .int 0, .int 0, .int 0, .int 0, .ref (a 208), .ref (a 209), .ref (a 210), .ref (a 211), .ref (a 212), .int 4, .int 12, .int (-1), .int 0, .ref (g 200), .ref (a 213), .int 0, .int 97, .ref (a 214), .ref (a 215), .ref (a 207), .null, .int 0]))] := (hD.to hAz).pick (ws' := [((a 200), .inr (21, [.int 2, .ref (a 201), .ref (a 202), .ref (a 203), .ref (a 204), .ref (a 205), .ref (a 206), .int 0, .int 0, .int 0, .int 0, .ref (a 208), .ref (a 209), .ref (a 210), .ref (a 211), .ref (a 212), .int 4, .int 12, .int (-1), .int 0, .ref (g 200), .ref (a 213), .int 0, .int 97, .ref (a 214), .ref (a 215), .ref (a 207), .null, .int 0]))]) [1] (by decide) rfl
          have hFc := va_free (wc := [((a 200), .inr (21, [.int 2, .ref (a 201), .ref (a 202), .ref (a 203), .ref (a 204), .ref (a 205), .ref (a 206), .int 0, .int 0, .int 0, .int 0, .ref (a 208), .ref (a 209), .ref (a 210), .ref (a 211), .ref (a 212), .int 4, .int 12, .int (-1), .int 0, .ref (g 200), .ref (a 213), .int 0, .int 97, .ref (a 214), .ref (a 215), .ref (a 207), .null, .int 0]))]) hD hS hA [1] rfl
          refine va_calli (va_runV (As := []) (rest := []) ⟨hx, hb, hml, hown, ht⟩ (k_X15_thrown_v1 l D g z0 _ a) (cwV 0 ht (gV w_772 w_774 w_775 w_334 w_773) rfl rfl rfl (by decide +kernel) (le2 rfl rfl)) ⟨PP.blind, va_recv hK.1 hP (ci := 21) (q0 := 1) rfl rfl, PP.mk' hK hZ hz hAz hS hPc hDc⟩ rfl rfl hl.1 rfl (lv_room (Nat.le_of_ble_eq_true rfl)) dL_law_480 (le2 rfl rfl)) hS (fun q _ h => hFc q h) hFc (fun r u t H locs ht1 hvm hw hB hz1 hk1 hS => ?_)
          obtain ⟨rfl, hw⟩ := hw
          obtain ⟨hP1, hD1⟩ := hB
          rw [ht1] at hP1
          obtain ⟨hP, hD⟩ := va_join (wr := [(o1, .inl (g 1, 1, .inr (.inl (fun _ => 0))))]) (w1 := [((a 200), .inr (21, [.int 2, .ref (a 201), .ref (a 202), .ref (a 203), .ref (a 204), .ref (a 205), .ref (a 206), .int 0, .int 0, .int 0, .int 0, .ref (a 208), .ref (a 209), .ref (a 210), .ref (a 211), .ref (a 212), .int 4, .int 12, .int (-1), .int 0, .ref (g 200), .ref (a 213), .int 0, .int 97, .ref (a 214), .ref (a 215), .ref (a 207), .null, .int 0]))]) hP hD [1] [0] rfl rfl (by decide) (by decide) hk1 hFc hP1 hD1
          have hP : va_P D vwCl [(o1, .inl (g 1, 1, .inr (.inl (fun _ => 0)))), ((a 200), .inr (21, [.int 2, .ref (a 201), .ref (a 202), .ref (a 203), .ref (a 204), .ref (a 205), .ref (a 206), .int 0, .int 0, .int 0, .int 0, .ref (a 208), .ref (a 209), .ref (a 210), .ref (a 211), .ref (a 212), .int 4, .int 12, .int (-1), .int 0, .ref (g 200), .ref (a 213), .int 0, .int 97, .ref (a 214), .ref (a 215), .ref (a 207), .null, .int 0]))] H := hP
          have hD : va_D (va_A [] s.heap.size) [(o1, .inl (g 1, 1, .inr (.inl (fun _ => 0)))), ((a 200), .inr (21, [.int 2, .ref (a 201), .ref (a 202), .ref (a 203), .ref (a 204), .ref (a 205), .ref (a 206), .int 0, .int 0, .int 0, .int 0, .ref (a 208), .ref (a 209), .ref (a 210), .ref (a 211), .ref (a 212), .int 4, .int 12, .int (-1), .int 0, .ref (g 200), .ref (a 213), .int 0, .int 97, .ref (a 214), .ref (a 215), .ref (a 207), .null, .int 0]))] := hD
          refine lv_iload hx hb dL_law_483 (lv_at hl 1 rfl) ?_
          refine lv_icmp_eq (tgt := 490) hx hb dL_law_485 (by decide) (fun c_6 => ?_) (fun c_6 => ?_)
          · refine lv_iload hx hb dL_law_490 (lv_at hl 1 rfl) ?_
            refine lv_if_ne (tgt := 507) hx hb dL_law_492 (by decide) (fun c_7 => ?_) (fun c_7 => ?_)
            · refine lv_goto (tgt := 4264) hx hb dL_law_507 (by decide) ?_
              refine W.widen (k := 200 + 300) (n := 8000 + 2000) (Nat.le_of_ble_eq_true rfl) (Nat.le_of_ble_eq_true rfl) ?_
              exact kk _ _ _ hS (lv_sub hl [7, 2] rfl)
            · exact absurd c_7 (by decide)
          · exact absurd c_6 (by decide)
        · obtain ⟨c_8, c_9, c_10⟩ := hw
          obtain ⟨hP1, hD1⟩ := hB
          rw [ht1] at hP1
          obtain ⟨hP, hD⟩ := va_join (wr := [(o1, .inl (g 1, 1, .inr (.inl (fun _ => 0))))]) (w1 := [((a 200), .inr (21, [.int 2, .ref (a 201), .ref (a 202), .ref (a 203), .ref (a 204), .ref (a 205), .ref (a 206), .int 0, .int 0, .int 0, .int 0, .ref (a 208), .ref (a 209), .ref (a 210), .ref (a 211), .ref (a 212), .int 4, .int 12, .int (-1), .int 0, .ref (g 200), .ref (a 213), .int 0, .int 97, .ref (a 214), .ref (a 215), .ref (a 207), .null, .int 0]))]) hP hD [0, 1] [2] rfl rfl (by decide) (by decide) hk1 hFc hP1 hD1
          have hP : va_P D vwCl [(o1, .inl (g 1, 1, .inr (.inl (fun _ => 0)))), ((a 200), .inr (21, [.int 2, .ref (a 201), .ref (a 202), .ref (a 203), .ref (a 204), .ref (a 205), .ref (a 206), .int 0, .int 0, .int 0, .int 0, .ref (a 208), .ref (a 209), .ref (a 210), .ref (a 211), .ref (a 212), .int 4, .int 12, .int (-1), .int 0, .ref (g 200), .ref (a 213), .int 0, .int 97, .ref (a 214), .ref (a 215), .ref (a 207), .null, .int 0]))] H := hP
          have hD : va_D (va_A [] s.heap.size) [(o1, .inl (g 1, 1, .inr (.inl (fun _ => 0)))), ((a 200), .inr (21, [.int 2, .ref (a 201), .ref (a 202), .ref (a 203), .ref (a 204), .ref (a 205), .ref (a 206), .int 0, .int 0, .int 0, .int 0, .ref (a 208), .ref (a 209), .ref (a 210), .ref (a 211), .ref (a 212), .int 4, .int 12, .int (-1), .int 0, .ref (g 200), .ref (a 213), .int 0, .int 97, .ref (a 214), .ref (a 215), .ref (a 207), .null, .int 0]))] := hD
          refine lv_istore (lv' := [(7, .int 0), (6, .int 2), (0, .ref b), (1, .ref (a 0)), (2, .ref (a 200)), (3, .ref o1), (4, .ref o2), (5, .int 0)]) hx hb dL_law_477 hl (by decide) rfl (fun ls hl => ?_)
          refine lv_aload_n hx hb dL_law_479 rfl (lv_at hl 4 rfl) ?_
          have hPc : va_P D vwCl [((a 200), .inr (21, [.int 2, .ref (a 201), .ref (a 202), .ref (a 203), .ref (a 204), .ref (a 205), .ref (a 206), .int 0, .int 0, .int 0, .int 0, .ref (a 208), .ref (a 209), .ref (a 210), .ref (a 211), .ref (a 212), .int 4, .int 12, .int (-1), .int 0, .ref (g 200), .ref (a 213), .int 0, .int 97, .ref (a 214), .ref (a 215), .ref (a 207), .null, .int 0]))] _ := hP.sub (ws' := [((a 200), .inr (21, [.int 2, .ref (a 201), .ref (a 202), .ref (a 203), .ref (a 204), .ref (a 205), .ref (a 206), .int 0, .int 0, .int 0, .int 0, .ref (a 208), .ref (a 209), .ref (a 210), .ref (a 211), .ref (a 212), .int 4, .int 12, .int (-1), .int 0, .ref (g 200), .ref (a 213), .int 0, .int 97, .ref (a 214), .ref (a 215), .ref (a 207), .null, .int 0]))]) [1] rfl
          have hDc : va_D (fun q => z0 ≤ q) [((a 200), .inr (21, [.int 2, .ref (a 201), .ref (a 202), .ref (a 203), .ref (a 204), .ref (a 205), .ref (a 206), .int 0, .int 0, .int 0, .int 0, .ref (a 208), .ref (a 209), .ref (a 210), .ref (a 211), .ref (a 212), .int 4, .int 12, .int (-1), .int 0, .ref (g 200), .ref (a 213), .int 0, .int 97, .ref (a 214), .ref (a 215), .ref (a 207), .null, .int 0]))] := (hD.to hAz).pick (ws' := [((a 200), .inr (21, [.int 2, .ref (a 201), .ref (a 202), .ref (a 203), .ref (a 204), .ref (a 205), .ref (a 206), .int 0, .int 0, .int 0, .int 0, .ref (a 208), .ref (a 209), .ref (a 210), .ref (a 211), .ref (a 212), .int 4, .int 12, .int (-1), .int 0, .ref (g 200), .ref (a 213), .int 0, .int 97, .ref (a 214), .ref (a 215), .ref (a 207), .null, .int 0]))]) [1] (by decide) rfl
          have hFc := va_free (wc := [((a 200), .inr (21, [.int 2, .ref (a 201), .ref (a 202), .ref (a 203), .ref (a 204), .ref (a 205), .ref (a 206), .int 0, .int 0, .int 0, .int 0, .ref (a 208), .ref (a 209), .ref (a 210), .ref (a 211), .ref (a 212), .int 4, .int 12, .int (-1), .int 0, .ref (g 200), .ref (a 213), .int 0, .int 97, .ref (a 214), .ref (a 215), .ref (a 207), .null, .int 0]))]) hD hS hA [1] rfl
          refine va_calli (va_runV (As := []) (rest := []) ⟨hx, hb, hml, hown, ht⟩ (k_X15_thrown_v1 l D g z0 _ a) (cwV 0 ht (gV w_772 w_774 w_775 w_334 w_773) rfl rfl rfl (by decide +kernel) (le2 rfl rfl)) ⟨PP.blind, va_recv hK.1 hP (ci := 21) (q0 := 1) rfl rfl, PP.mk' hK hZ hz hAz hS hPc hDc⟩ rfl rfl hl.1 rfl (lv_room (Nat.le_of_ble_eq_true rfl)) dL_law_480 (le2 rfl rfl)) hS (fun q _ h => hFc q h) hFc (fun r u t H locs ht1 hvm hw hB hz1 hk1 hS => ?_)
          obtain ⟨rfl, hw⟩ := hw
          obtain ⟨hP1, hD1⟩ := hB
          rw [ht1] at hP1
          obtain ⟨hP, hD⟩ := va_join (wr := [(o1, .inl (g 1, 1, .inr (.inl (fun _ => 0))))]) (w1 := [((a 200), .inr (21, [.int 2, .ref (a 201), .ref (a 202), .ref (a 203), .ref (a 204), .ref (a 205), .ref (a 206), .int 0, .int 0, .int 0, .int 0, .ref (a 208), .ref (a 209), .ref (a 210), .ref (a 211), .ref (a 212), .int 4, .int 12, .int (-1), .int 0, .ref (g 200), .ref (a 213), .int 0, .int 97, .ref (a 214), .ref (a 215), .ref (a 207), .null, .int 0]))]) hP hD [1] [0] rfl rfl (by decide) (by decide) hk1 hFc hP1 hD1
          have hP : va_P D vwCl [(o1, .inl (g 1, 1, .inr (.inl (fun _ => 0)))), ((a 200), .inr (21, [.int 2, .ref (a 201), .ref (a 202), .ref (a 203), .ref (a 204), .ref (a 205), .ref (a 206), .int 0, .int 0, .int 0, .int 0, .ref (a 208), .ref (a 209), .ref (a 210), .ref (a 211), .ref (a 212), .int 4, .int 12, .int (-1), .int 0, .ref (g 200), .ref (a 213), .int 0, .int 97, .ref (a 214), .ref (a 215), .ref (a 207), .null, .int 0]))] H := hP
          have hD : va_D (va_A [] s.heap.size) [(o1, .inl (g 1, 1, .inr (.inl (fun _ => 0)))), ((a 200), .inr (21, [.int 2, .ref (a 201), .ref (a 202), .ref (a 203), .ref (a 204), .ref (a 205), .ref (a 206), .int 0, .int 0, .int 0, .int 0, .ref (a 208), .ref (a 209), .ref (a 210), .ref (a 211), .ref (a 212), .int 4, .int 12, .int (-1), .int 0, .ref (g 200), .ref (a 213), .int 0, .int 97, .ref (a 214), .ref (a 215), .ref (a 207), .null, .int 0]))] := hD
          refine lv_iload hx hb dL_law_483 (lv_at hl 1 rfl) ?_
          refine lv_icmp_eq (tgt := 490) hx hb dL_law_485 (by decide) (fun c_11 => ?_) (fun c_11 => ?_)
          · refine lv_iload hx hb dL_law_490 (lv_at hl 1 rfl) ?_
            refine lv_if_ne (tgt := 507) hx hb dL_law_492 (by decide) (fun c_12 => ?_) (fun c_12 => ?_)
            · refine lv_goto (tgt := 4264) hx hb dL_law_507 (by decide) ?_
              refine W.widen (k := 200 + 300) (n := 8000 + 2000) (Nat.le_of_ble_eq_true rfl) (Nat.le_of_ble_eq_true rfl) ?_
              exact kk _ _ _ hS (lv_sub hl [7, 2] rfl)
            · exact absurd c_12 (by decide)
          · exact absurd c_11 (by decide)
        · obtain ⟨c_13, c_14, c_15⟩ := hw
          obtain ⟨hP1, hD1⟩ := hB
          rw [ht1] at hP1
          obtain ⟨hP, hD⟩ := va_join (wr := [(o1, .inl (g 1, 1, .inr (.inl (fun _ => 0))))]) (w1 := [((a 200), .inr (21, [.int 2, .ref (a 201), .ref (a 202), .ref (a 203), .ref (a 204), .ref (a 205), .ref (a 206), .int 0, .int 0, .int 0, .int 0, .ref (a 208), .ref (a 209), .ref (a 210), .ref (a 211), .ref (a 212), .int 4, .int 12, .int (-1), .int 0, .ref (g 200), .ref (a 213), .int 0, .int 97, .ref (a 214), .ref (a 215), .ref (a 207), .null, .int 0]))]) hP hD [0, 1] [2] rfl rfl (by decide) (by decide) hk1 hFc hP1 hD1
          have hP : va_P D vwCl [(o1, .inl (g 1, 1, .inr (.inl (fun _ => 0)))), ((a 200), .inr (21, [.int 2, .ref (a 201), .ref (a 202), .ref (a 203), .ref (a 204), .ref (a 205), .ref (a 206), .int 0, .int 0, .int 0, .int 0, .ref (a 208), .ref (a 209), .ref (a 210), .ref (a 211), .ref (a 212), .int 4, .int 12, .int (-1), .int 0, .ref (g 200), .ref (a 213), .int 0, .int 97, .ref (a 214), .ref (a 215), .ref (a 207), .null, .int 0]))] H := hP
          have hD : va_D (va_A [] s.heap.size) [(o1, .inl (g 1, 1, .inr (.inl (fun _ => 0)))), ((a 200), .inr (21, [.int 2, .ref (a 201), .ref (a 202), .ref (a 203), .ref (a 204), .ref (a 205), .ref (a 206), .int 0, .int 0, .int 0, .int 0, .ref (a 208), .ref (a 209), .ref (a 210), .ref (a 211), .ref (a 212), .int 4, .int 12, .int (-1), .int 0, .ref (g 200), .ref (a 213), .int 0, .int 97, .ref (a 214), .ref (a 215), .ref (a 207), .null, .int 0]))] := hD
          refine lv_istore (lv' := [(7, .int 0), (6, .int 2), (0, .ref b), (1, .ref (a 0)), (2, .ref (a 200)), (3, .ref o1), (4, .ref o2), (5, .int 0)]) hx hb dL_law_477 hl (by decide) rfl (fun ls hl => ?_)
          refine lv_aload_n hx hb dL_law_479 rfl (lv_at hl 4 rfl) ?_
          have hPc : va_P D vwCl [((a 200), .inr (21, [.int 2, .ref (a 201), .ref (a 202), .ref (a 203), .ref (a 204), .ref (a 205), .ref (a 206), .int 0, .int 0, .int 0, .int 0, .ref (a 208), .ref (a 209), .ref (a 210), .ref (a 211), .ref (a 212), .int 4, .int 12, .int (-1), .int 0, .ref (g 200), .ref (a 213), .int 0, .int 97, .ref (a 214), .ref (a 215), .ref (a 207), .null, .int 0]))] _ := hP.sub (ws' := [((a 200), .inr (21, [.int 2, .ref (a 201), .ref (a 202), .ref (a 203), .ref (a 204), .ref (a 205), .ref (a 206), .int 0, .int 0, .int 0, .int 0, .ref (a 208), .ref (a 209), .ref (a 210), .ref (a 211), .ref (a 212), .int 4, .int 12, .int (-1), .int 0, .ref (g 200), .ref (a 213), .int 0, .int 97, .ref (a 214), .ref (a 215), .ref (a 207), .null, .int 0]))]) [1] rfl
          have hDc : va_D (fun q => z0 ≤ q) [((a 200), .inr (21, [.int 2, .ref (a 201), .ref (a 202), .ref (a 203), .ref (a 204), .ref (a 205), .ref (a 206), .int 0, .int 0, .int 0, .int 0, .ref (a 208), .ref (a 209), .ref (a 210), .ref (a 211), .ref (a 212), .int 4, .int 12, .int (-1), .int 0, .ref (g 200), .ref (a 213), .int 0, .int 97, .ref (a 214), .ref (a 215), .ref (a 207), .null, .int 0]))] := (hD.to hAz).pick (ws' := [((a 200), .inr (21, [.int 2, .ref (a 201), .ref (a 202), .ref (a 203), .ref (a 204), .ref (a 205), .ref (a 206), .int 0, .int 0, .int 0, .int 0, .ref (a 208), .ref (a 209), .ref (a 210), .ref (a 211), .ref (a 212), .int 4, .int 12, .int (-1), .int 0, .ref (g 200), .ref (a 213), .int 0, .int 97, .ref (a 214), .ref (a 215), .ref (a 207), .null, .int 0]))]) [1] (by decide) rfl
          have hFc := va_free (wc := [((a 200), .inr (21, [.int 2, .ref (a 201), .ref (a 202), .ref (a 203), .ref (a 204), .ref (a 205), .ref (a 206), .int 0, .int 0, .int 0, .int 0, .ref (a 208), .ref (a 209), .ref (a 210), .ref (a 211), .ref (a 212), .int 4, .int 12, .int (-1), .int 0, .ref (g 200), .ref (a 213), .int 0, .int 97, .ref (a 214), .ref (a 215), .ref (a 207), .null, .int 0]))]) hD hS hA [1] rfl
          refine va_calli (va_runV (As := []) (rest := []) ⟨hx, hb, hml, hown, ht⟩ (k_X15_thrown_v1 l D g z0 _ a) (cwV 0 ht (gV w_772 w_774 w_775 w_334 w_773) rfl rfl rfl (by decide +kernel) (le2 rfl rfl)) ⟨PP.blind, va_recv hK.1 hP (ci := 21) (q0 := 1) rfl rfl, PP.mk' hK hZ hz hAz hS hPc hDc⟩ rfl rfl hl.1 rfl (lv_room (Nat.le_of_ble_eq_true rfl)) dL_law_480 (le2 rfl rfl)) hS (fun q _ h => hFc q h) hFc (fun r u t H locs ht1 hvm hw hB hz1 hk1 hS => ?_)
          obtain ⟨rfl, hw⟩ := hw
          obtain ⟨hP1, hD1⟩ := hB
          rw [ht1] at hP1
          obtain ⟨hP, hD⟩ := va_join (wr := [(o1, .inl (g 1, 1, .inr (.inl (fun _ => 0))))]) (w1 := [((a 200), .inr (21, [.int 2, .ref (a 201), .ref (a 202), .ref (a 203), .ref (a 204), .ref (a 205), .ref (a 206), .int 0, .int 0, .int 0, .int 0, .ref (a 208), .ref (a 209), .ref (a 210), .ref (a 211), .ref (a 212), .int 4, .int 12, .int (-1), .int 0, .ref (g 200), .ref (a 213), .int 0, .int 97, .ref (a 214), .ref (a 215), .ref (a 207), .null, .int 0]))]) hP hD [1] [0] rfl rfl (by decide) (by decide) hk1 hFc hP1 hD1
          have hP : va_P D vwCl [(o1, .inl (g 1, 1, .inr (.inl (fun _ => 0)))), ((a 200), .inr (21, [.int 2, .ref (a 201), .ref (a 202), .ref (a 203), .ref (a 204), .ref (a 205), .ref (a 206), .int 0, .int 0, .int 0, .int 0, .ref (a 208), .ref (a 209), .ref (a 210), .ref (a 211), .ref (a 212), .int 4, .int 12, .int (-1), .int 0, .ref (g 200), .ref (a 213), .int 0, .int 97, .ref (a 214), .ref (a 215), .ref (a 207), .null, .int 0]))] H := hP
          have hD : va_D (va_A [] s.heap.size) [(o1, .inl (g 1, 1, .inr (.inl (fun _ => 0)))), ((a 200), .inr (21, [.int 2, .ref (a 201), .ref (a 202), .ref (a 203), .ref (a 204), .ref (a 205), .ref (a 206), .int 0, .int 0, .int 0, .int 0, .ref (a 208), .ref (a 209), .ref (a 210), .ref (a 211), .ref (a 212), .int 4, .int 12, .int (-1), .int 0, .ref (g 200), .ref (a 213), .int 0, .int 97, .ref (a 214), .ref (a 215), .ref (a 207), .null, .int 0]))] := hD
          refine lv_iload hx hb dL_law_483 (lv_at hl 1 rfl) ?_
          refine lv_icmp_eq (tgt := 490) hx hb dL_law_485 (by decide) (fun c_16 => ?_) (fun c_16 => ?_)
          · refine lv_iload hx hb dL_law_490 (lv_at hl 1 rfl) ?_
            refine lv_if_ne (tgt := 507) hx hb dL_law_492 (by decide) (fun c_17 => ?_) (fun c_17 => ?_)
            · refine lv_goto (tgt := 4264) hx hb dL_law_507 (by decide) ?_
              refine W.widen (k := 200 + 300) (n := 8000 + 2000) (Nat.le_of_ble_eq_true rfl) (Nat.le_of_ble_eq_true rfl) ?_
              exact kk _ _ _ hS (lv_sub hl [7, 2] rfl)
            · exact absurd c_17 (by decide)
          · exact absurd c_16 (by decide)
        · obtain ⟨c_18, c_19, c_20⟩ := hw
          obtain ⟨hP1, hD1⟩ := hB
          rw [ht1] at hP1
          obtain ⟨hP, hD⟩ := va_join (wr := [(o1, .inl (g 1, 1, .inr (.inl (fun _ => 0))))]) (w1 := [((a 200), .inr (21, [.int 2, .ref (a 201), .ref (a 202), .ref (a 203), .ref (a 204), .ref (a 205), .ref (a 206), .int 0, .int 0, .int 0, .int 0, .ref (a 208), .ref (a 209), .ref (a 210), .ref (a 211), .ref (a 212), .int 4, .int 12, .int (-1), .int 0, .ref (g 200), .ref (a 213), .int 0, .int 97, .ref (a 214), .ref (a 215), .ref (a 207), .null, .int 0]))]) hP hD [0, 1] [2] rfl rfl (by decide) (by decide) hk1 hFc hP1 hD1
          have hP : va_P D vwCl [(o1, .inl (g 1, 1, .inr (.inl (fun _ => 0)))), ((a 200), .inr (21, [.int 2, .ref (a 201), .ref (a 202), .ref (a 203), .ref (a 204), .ref (a 205), .ref (a 206), .int 0, .int 0, .int 0, .int 0, .ref (a 208), .ref (a 209), .ref (a 210), .ref (a 211), .ref (a 212), .int 4, .int 12, .int (-1), .int 0, .ref (g 200), .ref (a 213), .int 0, .int 97, .ref (a 214), .ref (a 215), .ref (a 207), .null, .int 0]))] H := hP
          have hD : va_D (va_A [] s.heap.size) [(o1, .inl (g 1, 1, .inr (.inl (fun _ => 0)))), ((a 200), .inr (21, [.int 2, .ref (a 201), .ref (a 202), .ref (a 203), .ref (a 204), .ref (a 205), .ref (a 206), .int 0, .int 0, .int 0, .int 0, .ref (a 208), .ref (a 209), .ref (a 210), .ref (a 211), .ref (a 212), .int 4, .int 12, .int (-1), .int 0, .ref (g 200), .ref (a 213), .int 0, .int 97, .ref (a 214), .ref (a 215), .ref (a 207), .null, .int 0]))] := hD
          refine lv_istore (lv' := [(7, .int 0), (6, .int 2), (0, .ref b), (1, .ref (a 0)), (2, .ref (a 200)), (3, .ref o1), (4, .ref o2), (5, .int 0)]) hx hb dL_law_477 hl (by decide) rfl (fun ls hl => ?_)
          refine lv_aload_n hx hb dL_law_479 rfl (lv_at hl 4 rfl) ?_
          have hPc : va_P D vwCl [((a 200), .inr (21, [.int 2, .ref (a 201), .ref (a 202), .ref (a 203), .ref (a 204), .ref (a 205), .ref (a 206), .int 0, .int 0, .int 0, .int 0, .ref (a 208), .ref (a 209), .ref (a 210), .ref (a 211), .ref (a 212), .int 4, .int 12, .int (-1), .int 0, .ref (g 200), .ref (a 213), .int 0, .int 97, .ref (a 214), .ref (a 215), .ref (a 207), .null, .int 0]))] _ := hP.sub (ws' := [((a 200), .inr (21, [.int 2, .ref (a 201), .ref (a 202), .ref (a 203), .ref (a 204), .ref (a 205), .ref (a 206), .int 0, .int 0, .int 0, .int 0, .ref (a 208), .ref (a 209), .ref (a 210), .ref (a 211), .ref (a 212), .int 4, .int 12, .int (-1), .int 0, .ref (g 200), .ref (a 213), .int 0, .int 97, .ref (a 214), .ref (a 215), .ref (a 207), .null, .int 0]))]) [1] rfl
          have hDc : va_D (fun q => z0 ≤ q) [((a 200), .inr (21, [.int 2, .ref (a 201), .ref (a 202), .ref (a 203), .ref (a 204), .ref (a 205), .ref (a 206), .int 0, .int 0, .int 0, .int 0, .ref (a 208), .ref (a 209), .ref (a 210), .ref (a 211), .ref (a 212), .int 4, .int 12, .int (-1), .int 0, .ref (g 200), .ref (a 213), .int 0, .int 97, .ref (a 214), .ref (a 215), .ref (a 207), .null, .int 0]))] := (hD.to hAz).pick (ws' := [((a 200), .inr (21, [.int 2, .ref (a 201), .ref (a 202), .ref (a 203), .ref (a 204), .ref (a 205), .ref (a 206), .int 0, .int 0, .int 0, .int 0, .ref (a 208), .ref (a 209), .ref (a 210), .ref (a 211), .ref (a 212), .int 4, .int 12, .int (-1), .int 0, .ref (g 200), .ref (a 213), .int 0, .int 97, .ref (a 214), .ref (a 215), .ref (a 207), .null, .int 0]))]) [1] (by decide) rfl
          have hFc := va_free (wc := [((a 200), .inr (21, [.int 2, .ref (a 201), .ref (a 202), .ref (a 203), .ref (a 204), .ref (a 205), .ref (a 206), .int 0, .int 0, .int 0, .int 0, .ref (a 208), .ref (a 209), .ref (a 210), .ref (a 211), .ref (a 212), .int 4, .int 12, .int (-1), .int 0, .ref (g 200), .ref (a 213), .int 0, .int 97, .ref (a 214), .ref (a 215), .ref (a 207), .null, .int 0]))]) hD hS hA [1] rfl
          refine va_calli (va_runV (As := []) (rest := []) ⟨hx, hb, hml, hown, ht⟩ (k_X15_thrown_v1 l D g z0 _ a) (cwV 0 ht (gV w_772 w_774 w_775 w_334 w_773) rfl rfl rfl (by decide +kernel) (le2 rfl rfl)) ⟨PP.blind, va_recv hK.1 hP (ci := 21) (q0 := 1) rfl rfl, PP.mk' hK hZ hz hAz hS hPc hDc⟩ rfl rfl hl.1 rfl (lv_room (Nat.le_of_ble_eq_true rfl)) dL_law_480 (le2 rfl rfl)) hS (fun q _ h => hFc q h) hFc (fun r u t H locs ht1 hvm hw hB hz1 hk1 hS => ?_)
          obtain ⟨rfl, hw⟩ := hw
          obtain ⟨hP1, hD1⟩ := hB
          rw [ht1] at hP1
          obtain ⟨hP, hD⟩ := va_join (wr := [(o1, .inl (g 1, 1, .inr (.inl (fun _ => 0))))]) (w1 := [((a 200), .inr (21, [.int 2, .ref (a 201), .ref (a 202), .ref (a 203), .ref (a 204), .ref (a 205), .ref (a 206), .int 0, .int 0, .int 0, .int 0, .ref (a 208), .ref (a 209), .ref (a 210), .ref (a 211), .ref (a 212), .int 4, .int 12, .int (-1), .int 0, .ref (g 200), .ref (a 213), .int 0, .int 97, .ref (a 214), .ref (a 215), .ref (a 207), .null, .int 0]))]) hP hD [1] [0] rfl rfl (by decide) (by decide) hk1 hFc hP1 hD1
          have hP : va_P D vwCl [(o1, .inl (g 1, 1, .inr (.inl (fun _ => 0)))), ((a 200), .inr (21, [.int 2, .ref (a 201), .ref (a 202), .ref (a 203), .ref (a 204), .ref (a 205), .ref (a 206), .int 0, .int 0, .int 0, .int 0, .ref (a 208), .ref (a 209), .ref (a 210), .ref (a 211), .ref (a 212), .int 4, .int 12, .int (-1), .int 0, .ref (g 200), .ref (a 213), .int 0, .int 97, .ref (a 214), .ref (a 215), .ref (a 207), .null, .int 0]))] H := hP
          have hD : va_D (va_A [] s.heap.size) [(o1, .inl (g 1, 1, .inr (.inl (fun _ => 0)))), ((a 200), .inr (21, [.int 2, .ref (a 201), .ref (a 202), .ref (a 203), .ref (a 204), .ref (a 205), .ref (a 206), .int 0, .int 0, .int 0, .int 0, .ref (a 208), .ref (a 209), .ref (a 210), .ref (a 211), .ref (a 212), .int 4, .int 12, .int (-1), .int 0, .ref (g 200), .ref (a 213), .int 0, .int 97, .ref (a 214), .ref (a 215), .ref (a 207), .null, .int 0]))] := hD
          refine lv_iload hx hb dL_law_483 (lv_at hl 1 rfl) ?_
          refine lv_icmp_eq (tgt := 490) hx hb dL_law_485 (by decide) (fun c_21 => ?_) (fun c_21 => ?_)
          · refine lv_iload hx hb dL_law_490 (lv_at hl 1 rfl) ?_
            refine lv_if_ne (tgt := 507) hx hb dL_law_492 (by decide) (fun c_22 => ?_) (fun c_22 => ?_)
            · refine lv_goto (tgt := 4264) hx hb dL_law_507 (by decide) ?_
              refine W.widen (k := 200 + 300) (n := 8000 + 2000) (Nat.le_of_ble_eq_true rfl) (Nat.le_of_ble_eq_true rfl) ?_
              exact kk _ _ _ hS (lv_sub hl [7, 2] rfl)
            · exact absurd c_22 (by decide)
          · exact absurd c_21 (by decide)
        · obtain ⟨c_23, c_24, c_25⟩ := hw
          obtain ⟨hP1, hD1⟩ := hB
          rw [ht1] at hP1
          obtain ⟨hP, hD⟩ := va_join (wr := [(o1, .inl (g 1, 1, .inr (.inl (fun _ => 0))))]) (w1 := [((a 200), .inr (21, [.int 2, .ref (a 201), .ref (a 202), .ref (a 203), .ref (a 204), .ref (a 205), .ref (a 206), .int 0, .int 0, .int 0, .int 0, .ref (a 208), .ref (a 209), .ref (a 210), .ref (a 211), .ref (a 212), .int 4, .int 12, .int (-1), .int 0, .ref (g 200), .ref (a 213), .int 0, .int 97, .ref (a 214), .ref (a 215), .ref (a 207), .null, .int 0]))]) hP hD [0, 1] [2] rfl rfl (by decide) (by decide) hk1 hFc hP1 hD1
          have hP : va_P D vwCl [(o1, .inl (g 1, 1, .inr (.inl (fun _ => 0)))), ((a 200), .inr (21, [.int 2, .ref (a 201), .ref (a 202), .ref (a 203), .ref (a 204), .ref (a 205), .ref (a 206), .int 0, .int 0, .int 0, .int 0, .ref (a 208), .ref (a 209), .ref (a 210), .ref (a 211), .ref (a 212), .int 4, .int 12, .int (-1), .int 0, .ref (g 200), .ref (a 213), .int 0, .int 97, .ref (a 214), .ref (a 215), .ref (a 207), .null, .int 0]))] H := hP
          have hD : va_D (va_A [] s.heap.size) [(o1, .inl (g 1, 1, .inr (.inl (fun _ => 0)))), ((a 200), .inr (21, [.int 2, .ref (a 201), .ref (a 202), .ref (a 203), .ref (a 204), .ref (a 205), .ref (a 206), .int 0, .int 0, .int 0, .int 0, .ref (a 208), .ref (a 209), .ref (a 210), .ref (a 211), .ref (a 212), .int 4, .int 12, .int (-1), .int 0, .ref (g 200), .ref (a 213), .int 0, .int 97, .ref (a 214), .ref (a 215), .ref (a 207), .null, .int 0]))] := hD
          refine lv_istore (lv' := [(7, .int 0), (6, .int 2), (0, .ref b), (1, .ref (a 0)), (2, .ref (a 200)), (3, .ref o1), (4, .ref o2), (5, .int 0)]) hx hb dL_law_477 hl (by decide) rfl (fun ls hl => ?_)
          refine lv_aload_n hx hb dL_law_479 rfl (lv_at hl 4 rfl) ?_
          have hPc : va_P D vwCl [((a 200), .inr (21, [.int 2, .ref (a 201), .ref (a 202), .ref (a 203), .ref (a 204), .ref (a 205), .ref (a 206), .int 0, .int 0, .int 0, .int 0, .ref (a 208), .ref (a 209), .ref (a 210), .ref (a 211), .ref (a 212), .int 4, .int 12, .int (-1), .int 0, .ref (g 200), .ref (a 213), .int 0, .int 97, .ref (a 214), .ref (a 215), .ref (a 207), .null, .int 0]))] _ := hP.sub (ws' := [((a 200), .inr (21, [.int 2, .ref (a 201), .ref (a 202), .ref (a 203), .ref (a 204), .ref (a 205), .ref (a 206), .int 0, .int 0, .int 0, .int 0, .ref (a 208), .ref (a 209), .ref (a 210), .ref (a 211), .ref (a 212), .int 4, .int 12, .int (-1), .int 0, .ref (g 200), .ref (a 213), .int 0, .int 97, .ref (a 214), .ref (a 215), .ref (a 207), .null, .int 0]))]) [1] rfl
          have hDc : va_D (fun q => z0 ≤ q) [((a 200), .inr (21, [.int 2, .ref (a 201), .ref (a 202), .ref (a 203), .ref (a 204), .ref (a 205), .ref (a 206), .int 0, .int 0, .int 0, .int 0, .ref (a 208), .ref (a 209), .ref (a 210), .ref (a 211), .ref (a 212), .int 4, .int 12, .int (-1), .int 0, .ref (g 200), .ref (a 213), .int 0, .int 97, .ref (a 214), .ref (a 215), .ref (a 207), .null, .int 0]))] := (hD.to hAz).pick (ws' := [((a 200), .inr (21, [.int 2, .ref (a 201), .ref (a 202), .ref (a 203), .ref (a 204), .ref (a 205), .ref (a 206), .int 0, .int 0, .int 0, .int 0, .ref (a 208), .ref (a 209), .ref (a 210), .ref (a 211), .ref (a 212), .int 4, .int 12, .int (-1), .int 0, .ref (g 200), .ref (a 213), .int 0, .int 97, .ref (a 214), .ref (a 215), .ref (a 207), .null, .int 0]))]) [1] (by decide) rfl
          have hFc := va_free (wc := [((a 200), .inr (21, [.int 2, .ref (a 201), .ref (a 202), .ref (a 203), .ref (a 204), .ref (a 205), .ref (a 206), .int 0, .int 0, .int 0, .int 0, .ref (a 208), .ref (a 209), .ref (a 210), .ref (a 211), .ref (a 212), .int 4, .int 12, .int (-1), .int 0, .ref (g 200), .ref (a 213), .int 0, .int 97, .ref (a 214), .ref (a 215), .ref (a 207), .null, .int 0]))]) hD hS hA [1] rfl
          refine va_calli (va_runV (As := []) (rest := []) ⟨hx, hb, hml, hown, ht⟩ (k_X15_thrown_v1 l D g z0 _ a) (cwV 0 ht (gV w_772 w_774 w_775 w_334 w_773) rfl rfl rfl (by decide +kernel) (le2 rfl rfl)) ⟨PP.blind, va_recv hK.1 hP (ci := 21) (q0 := 1) rfl rfl, PP.mk' hK hZ hz hAz hS hPc hDc⟩ rfl rfl hl.1 rfl (lv_room (Nat.le_of_ble_eq_true rfl)) dL_law_480 (le2 rfl rfl)) hS (fun q _ h => hFc q h) hFc (fun r u t H locs ht1 hvm hw hB hz1 hk1 hS => ?_)
          obtain ⟨rfl, hw⟩ := hw
          obtain ⟨hP1, hD1⟩ := hB
          rw [ht1] at hP1
          obtain ⟨hP, hD⟩ := va_join (wr := [(o1, .inl (g 1, 1, .inr (.inl (fun _ => 0))))]) (w1 := [((a 200), .inr (21, [.int 2, .ref (a 201), .ref (a 202), .ref (a 203), .ref (a 204), .ref (a 205), .ref (a 206), .int 0, .int 0, .int 0, .int 0, .ref (a 208), .ref (a 209), .ref (a 210), .ref (a 211), .ref (a 212), .int 4, .int 12, .int (-1), .int 0, .ref (g 200), .ref (a 213), .int 0, .int 97, .ref (a 214), .ref (a 215), .ref (a 207), .null, .int 0]))]) hP hD [1] [0] rfl rfl (by decide) (by decide) hk1 hFc hP1 hD1
          have hP : va_P D vwCl [(o1, .inl (g 1, 1, .inr (.inl (fun _ => 0)))), ((a 200), .inr (21, [.int 2, .ref (a 201), .ref (a 202), .ref (a 203), .ref (a 204), .ref (a 205), .ref (a 206), .int 0, .int 0, .int 0, .int 0, .ref (a 208), .ref (a 209), .ref (a 210), .ref (a 211), .ref (a 212), .int 4, .int 12, .int (-1), .int 0, .ref (g 200), .ref (a 213), .int 0, .int 97, .ref (a 214), .ref (a 215), .ref (a 207), .null, .int 0]))] H := hP
          have hD : va_D (va_A [] s.heap.size) [(o1, .inl (g 1, 1, .inr (.inl (fun _ => 0)))), ((a 200), .inr (21, [.int 2, .ref (a 201), .ref (a 202), .ref (a 203), .ref (a 204), .ref (a 205), .ref (a 206), .int 0, .int 0, .int 0, .int 0, .ref (a 208), .ref (a 209), .ref (a 210), .ref (a 211), .ref (a 212), .int 4, .int 12, .int (-1), .int 0, .ref (g 200), .ref (a 213), .int 0, .int 97, .ref (a 214), .ref (a 215), .ref (a 207), .null, .int 0]))] := hD
          refine lv_iload hx hb dL_law_483 (lv_at hl 1 rfl) ?_
          refine lv_icmp_eq (tgt := 490) hx hb dL_law_485 (by decide) (fun c_26 => ?_) (fun c_26 => ?_)
          · refine lv_iload hx hb dL_law_490 (lv_at hl 1 rfl) ?_
            refine lv_if_ne (tgt := 507) hx hb dL_law_492 (by decide) (fun c_27 => ?_) (fun c_27 => ?_)
            · refine lv_goto (tgt := 4264) hx hb dL_law_507 (by decide) ?_
              refine W.widen (k := 200 + 300) (n := 8000 + 2000) (Nat.le_of_ble_eq_true rfl) (Nat.le_of_ble_eq_true rfl) ?_
              exact kk _ _ _ hS (lv_sub hl [7, 2] rfl)
            · exact absurd c_27 (by decide)
          · exact absurd c_26 (by decide)
        · obtain ⟨c_28, c_29⟩ := hw
          exact absurd c_1 (by rw [c_29]; unfold gk2; decide)
      · obtain ⟨rfl, rfl, hw⟩ := hw
        rcases hw with hw | hw | hw
        · obtain ⟨c_30, c_31, c_32, c_33, c_34, c_35, c_36⟩ := hw
          exact (c_1).elim (fun h9 => (c_32 h9).elim) (fun h9 => h9.elim (fun h9 => (c_34 h9).elim) (fun h9 => h9.elim (fun h9 => (c_33 h9).elim) (fun h9 => h9.elim (fun h9 => (c_35 h9).elim) (fun h9 => (c_36 h9).elim))))
        · obtain ⟨c_37, c_38, c_39, c_40, c_41, c_42, c_43⟩ := hw
          exact (c_1).elim (fun h9 => (c_39 h9).elim) (fun h9 => h9.elim (fun h9 => (c_41 h9).elim) (fun h9 => h9.elim (fun h9 => (c_40 h9).elim) (fun h9 => h9.elim (fun h9 => (c_42 h9).elim) (fun h9 => (c_43 h9).elim))))
        · obtain ⟨c_44, c_45, c_46, c_47, c_48, c_49, c_50⟩ := hw
          exact (c_1).elim (fun h9 => (c_46 h9).elim) (fun h9 => h9.elim (fun h9 => (c_48 h9).elim) (fun h9 => h9.elim (fun h9 => (c_47 h9).elim) (fun h9 => h9.elim (fun h9 => (c_49 h9).elim) (fun h9 => (c_50 h9).elim))))
    · have c_51 := hw
      obtain ⟨hP1, hD1⟩ := hB
      rw [ht1] at hP1
      obtain ⟨hP, hD⟩ := va_join (wr := [((a 200), f_m a g), ((a 201), .inr (5, [.int 0, .ref (g 100), .int 0]))]) (w1 := [(o1, .inl (g 1, 1, .inr (.inl (fun _ => 0))))]) hP hD [4, 0, 1] [2, 3] rfl rfl (by decide) (by decide) hk1 hFc hP1 hD1
      have hP : va_P D vwCl [((a 200), f_m a g), ((a 201), .inr (5, [.int 0, .ref (g 100), .int 0])), (o1, .inl (g 1, 1, .inr (.inl (fun _ => 0))))] H := hP
      have hD : va_D (va_A [] s.heap.size) [((a 200), f_m a g), ((a 201), .inr (5, [.int 0, .ref (g 100), .int 0])), (o1, .inl (g 1, 1, .inr (.inl (fun _ => 0))))] := hD
      refine lv_istore (lv' := [(6, .int 2), (0, .ref b), (1, .ref (a 0)), (2, .ref (a 200)), (3, .ref o1), (4, .ref o2), (5, .int 0)]) hx hb dL_law_452 hl (by decide) rfl (fun ls hl => ?_)
      refine lv_aload_n hx hb dL_law_454 rfl (lv_at hl 3 rfl) ?_
      refine lv_aload_n hx hb dL_law_455 rfl (lv_at hl 1 rfl) ?_
      refine lv_iload hx hb dL_law_456 (lv_at hl 6 rfl) ?_
      refine lv_iconst (v := 1) hx hb dL_law_458 (by decide) ?_
      refine lv_iadd hx hb dL_law_459 ?_
      refine r_topi (v := 1) (by decide) ?_
      refine va_sld hx hb hX hbl hbA hS (by unfold vp_in; decide) dL_law_460 ?_
      refine r_topi (v := xs 1) (congrArg xs (by decide)) ?_
      refine lv_i2c (v := ((xs 1).toUInt32 % 65536).toInt32) hx hb dL_law_461 rfl ?_
      refine lv_aload_n hx hb dL_law_462 rfl (lv_at hl 1 rfl) ?_
      refine lv_iload hx hb dL_law_463 (lv_at hl 6 rfl) ?_
      refine lv_iconst (v := 2) hx hb dL_law_465 (by decide) ?_
      refine lv_iadd hx hb dL_law_466 ?_
      refine r_topi (v := 2) (by decide) ?_
      refine va_sld hx hb hX hbl hbA hS (by unfold vp_in; decide) dL_law_467 ?_
      refine r_topi (v := xs 2) (congrArg xs (by decide)) ?_
      refine lv_aload_n hx hb dL_law_468 rfl (lv_at hl 1 rfl) ?_
      refine lv_iload hx hb dL_law_469 (lv_at hl 6 rfl) ?_
      refine lv_iconst (v := 3) hx hb dL_law_471 (by decide) ?_
      refine lv_iadd hx hb dL_law_472 ?_
      refine r_topi (v := 3) (by decide) ?_
      refine va_sld hx hb hX hbl hbA hS (by unfold vp_in; decide) dL_law_473 ?_
      refine r_topi (v := xs 3) (congrArg xs (by decide)) ?_
      have hPc : va_P D vwCl [((a 200), f_m a g), ((a 201), .inr (5, [.int 0, .ref (g 100), .int 0]))] _ := hP.sub (ws' := [((a 200), f_m a g), ((a 201), .inr (5, [.int 0, .ref (g 100), .int 0]))]) [0, 1] rfl
      have hDc : va_D (fun q => z0 ≤ q) [((a 200), f_m a g), ((a 201), .inr (5, [.int 0, .ref (g 100), .int 0]))] := (hD.to hAz).pick (ws' := [((a 200), f_m a g), ((a 201), .inr (5, [.int 0, .ref (g 100), .int 0]))]) [0, 1] (by decide) rfl
      have hFc := va_free (wc := [((a 200), f_m a g), ((a 201), .inr (5, [.int 0, .ref (g 100), .int 0]))]) hD hS hA [0, 1] rfl
      refine va_calli (va_runV (As := [.int (((xs 1).toUInt32 % 65536).toInt32), .int (xs 2), .int (xs 3)]) (rest := []) ⟨hx, hb, hml, hown, ht⟩ (k_X15_gate l D g z0 _ a (((xs 1).toUInt32 % 65536).toInt32) (xs 2) (xs 3) (isC_i2c _)) (cwV 3 ht (gV w_786 w_788 w_789 w_334 w_787) rfl rfl rfl (by decide +kernel) (le2 rfl rfl)) ⟨PP.blind, va_recv hK.1 hP (ci := 21) (q0 := 0) rfl rfl, PP.mk' hK hZ hz hAz hS hPc hDc⟩ rfl rfl hl.1 rfl (lv_room (Nat.le_of_ble_eq_true rfl)) dL_law_474 (le2 rfl rfl)) hS (fun q _ h => hFc q h) hFc (fun r u t H locs ht1 hvm hw hB hz1 hk1 hS => ?_)
      rcases hw with hw | hw
      · obtain ⟨rfl, rfl, hw⟩ := hw
        rcases hw with hw | hw | hw | hw | hw | hw | hw
        · have c_52 := hw
          obtain ⟨hP1, hD1⟩ := hB
          rw [ht1] at hP1
          obtain ⟨hP, hD⟩ := va_join (wr := [(o1, .inl (g 1, 1, .inr (.inl (fun _ => 0))))]) (w1 := [((a 200), .inr (21, [.int 2, .ref (a 201), .ref (a 202), .ref (a 203), .ref (a 204), .ref (a 205), .ref (a 206), .int 0, .int 0, .int 0, .int 0, .ref (a 208), .ref (a 209), .ref (a 210), .ref (a 211), .ref (a 212), .int 4, .int 12, .int (-1), .int 0, .ref (g 200), .ref (a 213), .int 0, .int 97, .ref (a 214), .ref (a 215), .ref (a 207), .null, .int 0]))]) hP hD [0, 1] [2] rfl rfl (by decide) (by decide) hk1 hFc hP1 hD1
          have hP : va_P D vwCl [(o1, .inl (g 1, 1, .inr (.inl (fun _ => 0)))), ((a 200), .inr (21, [.int 2, .ref (a 201), .ref (a 202), .ref (a 203), .ref (a 204), .ref (a 205), .ref (a 206), .int 0, .int 0, .int 0, .int 0, .ref (a 208), .ref (a 209), .ref (a 210), .ref (a 211), .ref (a 212), .int 4, .int 12, .int (-1), .int 0, .ref (g 200), .ref (a 213), .int 0, .int 97, .ref (a 214), .ref (a 215), .ref (a 207), .null, .int 0]))] H := hP
          have hD : va_D (va_A [] s.heap.size) [(o1, .inl (g 1, 1, .inr (.inl (fun _ => 0)))), ((a 200), .inr (21, [.int 2, .ref (a 201), .ref (a 202), .ref (a 203), .ref (a 204), .ref (a 205), .ref (a 206), .int 0, .int 0, .int 0, .int 0, .ref (a 208), .ref (a 209), .ref (a 210), .ref (a 211), .ref (a 212), .int 4, .int 12, .int (-1), .int 0, .ref (g 200), .ref (a 213), .int 0, .int 97, .ref (a 214), .ref (a 215), .ref (a 207), .null, .int 0]))] := hD
          refine lv_istore (lv' := [(7, .int 0), (6, .int 2), (0, .ref b), (1, .ref (a 0)), (2, .ref (a 200)), (3, .ref o1), (4, .ref o2), (5, .int 0)]) hx hb dL_law_477 hl (by decide) rfl (fun ls hl => ?_)
          refine lv_aload_n hx hb dL_law_479 rfl (lv_at hl 4 rfl) ?_
          have hPc : va_P D vwCl [((a 200), .inr (21, [.int 2, .ref (a 201), .ref (a 202), .ref (a 203), .ref (a 204), .ref (a 205), .ref (a 206), .int 0, .int 0, .int 0, .int 0, .ref (a 208), .ref (a 209), .ref (a 210), .ref (a 211), .ref (a 212), .int 4, .int 12, .int (-1), .int 0, .ref (g 200), .ref (a 213), .int 0, .int 97, .ref (a 214), .ref (a 215), .ref (a 207), .null, .int 0]))] _ := hP.sub (ws' := [((a 200), .inr (21, [.int 2, .ref (a 201), .ref (a 202), .ref (a 203), .ref (a 204), .ref (a 205), .ref (a 206), .int 0, .int 0, .int 0, .int 0, .ref (a 208), .ref (a 209), .ref (a 210), .ref (a 211), .ref (a 212), .int 4, .int 12, .int (-1), .int 0, .ref (g 200), .ref (a 213), .int 0, .int 97, .ref (a 214), .ref (a 215), .ref (a 207), .null, .int 0]))]) [1] rfl
          have hDc : va_D (fun q => z0 ≤ q) [((a 200), .inr (21, [.int 2, .ref (a 201), .ref (a 202), .ref (a 203), .ref (a 204), .ref (a 205), .ref (a 206), .int 0, .int 0, .int 0, .int 0, .ref (a 208), .ref (a 209), .ref (a 210), .ref (a 211), .ref (a 212), .int 4, .int 12, .int (-1), .int 0, .ref (g 200), .ref (a 213), .int 0, .int 97, .ref (a 214), .ref (a 215), .ref (a 207), .null, .int 0]))] := (hD.to hAz).pick (ws' := [((a 200), .inr (21, [.int 2, .ref (a 201), .ref (a 202), .ref (a 203), .ref (a 204), .ref (a 205), .ref (a 206), .int 0, .int 0, .int 0, .int 0, .ref (a 208), .ref (a 209), .ref (a 210), .ref (a 211), .ref (a 212), .int 4, .int 12, .int (-1), .int 0, .ref (g 200), .ref (a 213), .int 0, .int 97, .ref (a 214), .ref (a 215), .ref (a 207), .null, .int 0]))]) [1] (by decide) rfl
          have hFc := va_free (wc := [((a 200), .inr (21, [.int 2, .ref (a 201), .ref (a 202), .ref (a 203), .ref (a 204), .ref (a 205), .ref (a 206), .int 0, .int 0, .int 0, .int 0, .ref (a 208), .ref (a 209), .ref (a 210), .ref (a 211), .ref (a 212), .int 4, .int 12, .int (-1), .int 0, .ref (g 200), .ref (a 213), .int 0, .int 97, .ref (a 214), .ref (a 215), .ref (a 207), .null, .int 0]))]) hD hS hA [1] rfl
          refine va_calli (va_runV (As := []) (rest := []) ⟨hx, hb, hml, hown, ht⟩ (k_X15_thrown_v1 l D g z0 _ a) (cwV 0 ht (gV w_772 w_774 w_775 w_334 w_773) rfl rfl rfl (by decide +kernel) (le2 rfl rfl)) ⟨PP.blind, va_recv hK.1 hP (ci := 21) (q0 := 1) rfl rfl, PP.mk' hK hZ hz hAz hS hPc hDc⟩ rfl rfl hl.1 rfl (lv_room (Nat.le_of_ble_eq_true rfl)) dL_law_480 (le2 rfl rfl)) hS (fun q _ h => hFc q h) hFc (fun r u t H locs ht1 hvm hw hB hz1 hk1 hS => ?_)
          obtain ⟨rfl, hw⟩ := hw
          obtain ⟨hP1, hD1⟩ := hB
          rw [ht1] at hP1
          obtain ⟨hP, hD⟩ := va_join (wr := [(o1, .inl (g 1, 1, .inr (.inl (fun _ => 0))))]) (w1 := [((a 200), .inr (21, [.int 2, .ref (a 201), .ref (a 202), .ref (a 203), .ref (a 204), .ref (a 205), .ref (a 206), .int 0, .int 0, .int 0, .int 0, .ref (a 208), .ref (a 209), .ref (a 210), .ref (a 211), .ref (a 212), .int 4, .int 12, .int (-1), .int 0, .ref (g 200), .ref (a 213), .int 0, .int 97, .ref (a 214), .ref (a 215), .ref (a 207), .null, .int 0]))]) hP hD [1] [0] rfl rfl (by decide) (by decide) hk1 hFc hP1 hD1
          have hP : va_P D vwCl [(o1, .inl (g 1, 1, .inr (.inl (fun _ => 0)))), ((a 200), .inr (21, [.int 2, .ref (a 201), .ref (a 202), .ref (a 203), .ref (a 204), .ref (a 205), .ref (a 206), .int 0, .int 0, .int 0, .int 0, .ref (a 208), .ref (a 209), .ref (a 210), .ref (a 211), .ref (a 212), .int 4, .int 12, .int (-1), .int 0, .ref (g 200), .ref (a 213), .int 0, .int 97, .ref (a 214), .ref (a 215), .ref (a 207), .null, .int 0]))] H := hP
          have hD : va_D (va_A [] s.heap.size) [(o1, .inl (g 1, 1, .inr (.inl (fun _ => 0)))), ((a 200), .inr (21, [.int 2, .ref (a 201), .ref (a 202), .ref (a 203), .ref (a 204), .ref (a 205), .ref (a 206), .int 0, .int 0, .int 0, .int 0, .ref (a 208), .ref (a 209), .ref (a 210), .ref (a 211), .ref (a 212), .int 4, .int 12, .int (-1), .int 0, .ref (g 200), .ref (a 213), .int 0, .int 97, .ref (a 214), .ref (a 215), .ref (a 207), .null, .int 0]))] := hD
          refine lv_iload hx hb dL_law_483 (lv_at hl 1 rfl) ?_
          refine lv_icmp_eq (tgt := 490) hx hb dL_law_485 (by decide) (fun c_53 => ?_) (fun c_53 => ?_)
          · refine lv_iload hx hb dL_law_490 (lv_at hl 1 rfl) ?_
            refine lv_if_ne (tgt := 507) hx hb dL_law_492 (by decide) (fun c_54 => ?_) (fun c_54 => ?_)
            · refine lv_goto (tgt := 4264) hx hb dL_law_507 (by decide) ?_
              refine W.widen (k := 200 + 300) (n := 8000 + 2000) (Nat.le_of_ble_eq_true rfl) (Nat.le_of_ble_eq_true rfl) ?_
              exact kk _ _ _ hS (lv_sub hl [7, 2] rfl)
            · exact absurd c_54 (by decide)
          · exact absurd c_53 (by decide)
        · obtain ⟨c_55, c_56, c_57⟩ := hw
          exact (c_51).elim (fun h9 => (c_55 h9).elim) (fun h9 => (c_56 h9).elim)
        · obtain ⟨c_58, c_59, c_60⟩ := hw
          exact (c_51).elim (fun h9 => (c_58 h9).elim) (fun h9 => (c_59 h9).elim)
        · obtain ⟨c_61, c_62, c_63⟩ := hw
          exact (c_51).elim (fun h9 => (c_61 h9).elim) (fun h9 => (c_62 h9).elim)
        · obtain ⟨c_64, c_65, c_66⟩ := hw
          exact (c_51).elim (fun h9 => (c_64 h9).elim) (fun h9 => (c_65 h9).elim)
        · obtain ⟨c_67, c_68, c_69⟩ := hw
          exact (c_51).elim (fun h9 => (c_67 h9).elim) (fun h9 => (c_68 h9).elim)
        · obtain ⟨c_70, c_71⟩ := hw
          obtain ⟨hP1, hD1⟩ := hB
          rw [ht1] at hP1
          obtain ⟨hP, hD⟩ := va_join (wr := [(o1, .inl (g 1, 1, .inr (.inl (fun _ => 0))))]) (w1 := [((a 200), .inr (21, [.int 2, .ref (a 201), .ref (a 202), .ref (a 203), .ref (a 204), .ref (a 205), .ref (a 206), .int 0, .int 0, .int 0, .int 0, .ref (a 208), .ref (a 209), .ref (a 210), .ref (a 211), .ref (a 212), .int 4, .int 12, .int (-1), .int 0, .ref (g 200), .ref (a 213), .int 0, .int 97, .ref (a 214), .ref (a 215), .ref (a 207), .null, .int 0]))]) hP hD [0, 1] [2] rfl rfl (by decide) (by decide) hk1 hFc hP1 hD1
          have hP : va_P D vwCl [(o1, .inl (g 1, 1, .inr (.inl (fun _ => 0)))), ((a 200), .inr (21, [.int 2, .ref (a 201), .ref (a 202), .ref (a 203), .ref (a 204), .ref (a 205), .ref (a 206), .int 0, .int 0, .int 0, .int 0, .ref (a 208), .ref (a 209), .ref (a 210), .ref (a 211), .ref (a 212), .int 4, .int 12, .int (-1), .int 0, .ref (g 200), .ref (a 213), .int 0, .int 97, .ref (a 214), .ref (a 215), .ref (a 207), .null, .int 0]))] H := hP
          have hD : va_D (va_A [] s.heap.size) [(o1, .inl (g 1, 1, .inr (.inl (fun _ => 0)))), ((a 200), .inr (21, [.int 2, .ref (a 201), .ref (a 202), .ref (a 203), .ref (a 204), .ref (a 205), .ref (a 206), .int 0, .int 0, .int 0, .int 0, .ref (a 208), .ref (a 209), .ref (a 210), .ref (a 211), .ref (a 212), .int 4, .int 12, .int (-1), .int 0, .ref (g 200), .ref (a 213), .int 0, .int 97, .ref (a 214), .ref (a 215), .ref (a 207), .null, .int 0]))] := hD
          refine lv_istore (lv' := [(7, .int 0), (6, .int 2), (0, .ref b), (1, .ref (a 0)), (2, .ref (a 200)), (3, .ref o1), (4, .ref o2), (5, .int 0)]) hx hb dL_law_477 hl (by decide) rfl (fun ls hl => ?_)
          refine lv_aload_n hx hb dL_law_479 rfl (lv_at hl 4 rfl) ?_
          have hPc : va_P D vwCl [((a 200), .inr (21, [.int 2, .ref (a 201), .ref (a 202), .ref (a 203), .ref (a 204), .ref (a 205), .ref (a 206), .int 0, .int 0, .int 0, .int 0, .ref (a 208), .ref (a 209), .ref (a 210), .ref (a 211), .ref (a 212), .int 4, .int 12, .int (-1), .int 0, .ref (g 200), .ref (a 213), .int 0, .int 97, .ref (a 214), .ref (a 215), .ref (a 207), .null, .int 0]))] _ := hP.sub (ws' := [((a 200), .inr (21, [.int 2, .ref (a 201), .ref (a 202), .ref (a 203), .ref (a 204), .ref (a 205), .ref (a 206), .int 0, .int 0, .int 0, .int 0, .ref (a 208), .ref (a 209), .ref (a 210), .ref (a 211), .ref (a 212), .int 4, .int 12, .int (-1), .int 0, .ref (g 200), .ref (a 213), .int 0, .int 97, .ref (a 214), .ref (a 215), .ref (a 207), .null, .int 0]))]) [1] rfl
          have hDc : va_D (fun q => z0 ≤ q) [((a 200), .inr (21, [.int 2, .ref (a 201), .ref (a 202), .ref (a 203), .ref (a 204), .ref (a 205), .ref (a 206), .int 0, .int 0, .int 0, .int 0, .ref (a 208), .ref (a 209), .ref (a 210), .ref (a 211), .ref (a 212), .int 4, .int 12, .int (-1), .int 0, .ref (g 200), .ref (a 213), .int 0, .int 97, .ref (a 214), .ref (a 215), .ref (a 207), .null, .int 0]))] := (hD.to hAz).pick (ws' := [((a 200), .inr (21, [.int 2, .ref (a 201), .ref (a 202), .ref (a 203), .ref (a 204), .ref (a 205), .ref (a 206), .int 0, .int 0, .int 0, .int 0, .ref (a 208), .ref (a 209), .ref (a 210), .ref (a 211), .ref (a 212), .int 4, .int 12, .int (-1), .int 0, .ref (g 200), .ref (a 213), .int 0, .int 97, .ref (a 214), .ref (a 215), .ref (a 207), .null, .int 0]))]) [1] (by decide) rfl
          have hFc := va_free (wc := [((a 200), .inr (21, [.int 2, .ref (a 201), .ref (a 202), .ref (a 203), .ref (a 204), .ref (a 205), .ref (a 206), .int 0, .int 0, .int 0, .int 0, .ref (a 208), .ref (a 209), .ref (a 210), .ref (a 211), .ref (a 212), .int 4, .int 12, .int (-1), .int 0, .ref (g 200), .ref (a 213), .int 0, .int 97, .ref (a 214), .ref (a 215), .ref (a 207), .null, .int 0]))]) hD hS hA [1] rfl
          refine va_calli (va_runV (As := []) (rest := []) ⟨hx, hb, hml, hown, ht⟩ (k_X15_thrown_v1 l D g z0 _ a) (cwV 0 ht (gV w_772 w_774 w_775 w_334 w_773) rfl rfl rfl (by decide +kernel) (le2 rfl rfl)) ⟨PP.blind, va_recv hK.1 hP (ci := 21) (q0 := 1) rfl rfl, PP.mk' hK hZ hz hAz hS hPc hDc⟩ rfl rfl hl.1 rfl (lv_room (Nat.le_of_ble_eq_true rfl)) dL_law_480 (le2 rfl rfl)) hS (fun q _ h => hFc q h) hFc (fun r u t H locs ht1 hvm hw hB hz1 hk1 hS => ?_)
          obtain ⟨rfl, hw⟩ := hw
          obtain ⟨hP1, hD1⟩ := hB
          rw [ht1] at hP1
          obtain ⟨hP, hD⟩ := va_join (wr := [(o1, .inl (g 1, 1, .inr (.inl (fun _ => 0))))]) (w1 := [((a 200), .inr (21, [.int 2, .ref (a 201), .ref (a 202), .ref (a 203), .ref (a 204), .ref (a 205), .ref (a 206), .int 0, .int 0, .int 0, .int 0, .ref (a 208), .ref (a 209), .ref (a 210), .ref (a 211), .ref (a 212), .int 4, .int 12, .int (-1), .int 0, .ref (g 200), .ref (a 213), .int 0, .int 97, .ref (a 214), .ref (a 215), .ref (a 207), .null, .int 0]))]) hP hD [1] [0] rfl rfl (by decide) (by decide) hk1 hFc hP1 hD1
          have hP : va_P D vwCl [(o1, .inl (g 1, 1, .inr (.inl (fun _ => 0)))), ((a 200), .inr (21, [.int 2, .ref (a 201), .ref (a 202), .ref (a 203), .ref (a 204), .ref (a 205), .ref (a 206), .int 0, .int 0, .int 0, .int 0, .ref (a 208), .ref (a 209), .ref (a 210), .ref (a 211), .ref (a 212), .int 4, .int 12, .int (-1), .int 0, .ref (g 200), .ref (a 213), .int 0, .int 97, .ref (a 214), .ref (a 215), .ref (a 207), .null, .int 0]))] H := hP
          have hD : va_D (va_A [] s.heap.size) [(o1, .inl (g 1, 1, .inr (.inl (fun _ => 0)))), ((a 200), .inr (21, [.int 2, .ref (a 201), .ref (a 202), .ref (a 203), .ref (a 204), .ref (a 205), .ref (a 206), .int 0, .int 0, .int 0, .int 0, .ref (a 208), .ref (a 209), .ref (a 210), .ref (a 211), .ref (a 212), .int 4, .int 12, .int (-1), .int 0, .ref (g 200), .ref (a 213), .int 0, .int 97, .ref (a 214), .ref (a 215), .ref (a 207), .null, .int 0]))] := hD
          refine lv_iload hx hb dL_law_483 (lv_at hl 1 rfl) ?_
          refine lv_icmp_eq (tgt := 490) hx hb dL_law_485 (by decide) (fun c_72 => ?_) (fun c_72 => ?_)
          · refine lv_iload hx hb dL_law_490 (lv_at hl 1 rfl) ?_
            refine lv_if_ne (tgt := 507) hx hb dL_law_492 (by decide) (fun c_73 => ?_) (fun c_73 => ?_)
            · refine lv_goto (tgt := 4264) hx hb dL_law_507 (by decide) ?_
              refine W.widen (k := 200 + 300) (n := 8000 + 2000) (Nat.le_of_ble_eq_true rfl) (Nat.le_of_ble_eq_true rfl) ?_
              exact kk _ _ _ hS (lv_sub hl [7, 2] rfl)
            · exact absurd c_73 (by decide)
          · exact absurd c_72 (by decide)
      · obtain ⟨rfl, rfl, hw⟩ := hw
        rcases hw with hw | hw | hw
        · obtain ⟨c_74, c_75, c_76, c_77, c_78, c_79, c_80⟩ := hw
          exact (c_51).elim (fun h9 => (c_74 h9).elim) (fun h9 => (c_75 h9).elim)
        · obtain ⟨c_81, c_82, c_83, c_84, c_85, c_86, c_87⟩ := hw
          exact (c_51).elim (fun h9 => (c_81 h9).elim) (fun h9 => (c_82 h9).elim)
        · obtain ⟨c_88, c_89, c_90, c_91, c_92, c_93, c_94⟩ := hw
          exact (c_51).elim (fun h9 => (c_88 h9).elim) (fun h9 => (c_89 h9).elim)
  · obtain ⟨rfl, hw⟩ := hw
    obtain ⟨c_95, c_96⟩ := hw
    obtain ⟨hP1, hD1⟩ := hB
    rw [ht1] at hP1
    obtain ⟨hP, hD⟩ := va_join (wr := [((a 200), f_m a g), ((a 201), .inr (5, [.int 0, .ref (g 100), .int 0]))]) (w1 := [(o1, .inl (g 1, 1, .inr (.inl (fun _ => 0))))]) hP hD [4, 0, 1] [2, 3] rfl rfl (by decide) (by decide) hk1 hFc hP1 hD1
    have hP : va_P D vwCl [((a 200), f_m a g), ((a 201), .inr (5, [.int 0, .ref (g 100), .int 0])), (o1, .inl (g 1, 1, .inr (.inl (fun _ => 0))))] H := hP
    have hD : va_D (va_A [] s.heap.size) [((a 200), f_m a g), ((a 201), .inr (5, [.int 0, .ref (g 100), .int 0])), (o1, .inl (g 1, 1, .inr (.inl (fun _ => 0))))] := hD
    refine lv_istore (lv' := [(6, .int 1), (0, .ref b), (1, .ref (a 0)), (2, .ref (a 200)), (3, .ref o1), (4, .ref o2), (5, .int 0)]) hx hb dL_law_452 hl (by decide) rfl (fun ls hl => ?_)
    refine lv_aload_n hx hb dL_law_454 rfl (lv_at hl 3 rfl) ?_
    refine lv_aload_n hx hb dL_law_455 rfl (lv_at hl 1 rfl) ?_
    refine lv_iload hx hb dL_law_456 (lv_at hl 6 rfl) ?_
    refine lv_iconst (v := 1) hx hb dL_law_458 (by decide) ?_
    refine lv_iadd hx hb dL_law_459 ?_
    refine r_topi (v := 1) (by decide) ?_
    refine va_sld hx hb hX hbl hbA hS (by unfold vp_in; decide) dL_law_460 ?_
    refine r_topi (v := xs 1) (congrArg xs (by decide)) ?_
    refine lv_i2c (v := ((xs 1).toUInt32 % 65536).toInt32) hx hb dL_law_461 rfl ?_
    refine lv_aload_n hx hb dL_law_462 rfl (lv_at hl 1 rfl) ?_
    refine lv_iload hx hb dL_law_463 (lv_at hl 6 rfl) ?_
    refine lv_iconst (v := 2) hx hb dL_law_465 (by decide) ?_
    refine lv_iadd hx hb dL_law_466 ?_
    refine r_topi (v := 2) (by decide) ?_
    refine va_sld hx hb hX hbl hbA hS (by unfold vp_in; decide) dL_law_467 ?_
    refine r_topi (v := xs 2) (congrArg xs (by decide)) ?_
    refine lv_aload_n hx hb dL_law_468 rfl (lv_at hl 1 rfl) ?_
    refine lv_iload hx hb dL_law_469 (lv_at hl 6 rfl) ?_
    refine lv_iconst (v := 3) hx hb dL_law_471 (by decide) ?_
    refine lv_iadd hx hb dL_law_472 ?_
    refine r_topi (v := 3) (by decide) ?_
    refine va_sld hx hb hX hbl hbA hS (by unfold vp_in; decide) dL_law_473 ?_
    refine r_topi (v := xs 3) (congrArg xs (by decide)) ?_
    have hPc : va_P D vwCl [((a 200), f_m a g), ((a 201), .inr (5, [.int 0, .ref (g 100), .int 0]))] _ := hP.sub (ws' := [((a 200), f_m a g), ((a 201), .inr (5, [.int 0, .ref (g 100), .int 0]))]) [0, 1] rfl
    have hDc : va_D (fun q => z0 ≤ q) [((a 200), f_m a g), ((a 201), .inr (5, [.int 0, .ref (g 100), .int 0]))] := (hD.to hAz).pick (ws' := [((a 200), f_m a g), ((a 201), .inr (5, [.int 0, .ref (g 100), .int 0]))]) [0, 1] (by decide) rfl
    have hFc := va_free (wc := [((a 200), f_m a g), ((a 201), .inr (5, [.int 0, .ref (g 100), .int 0]))]) hD hS hA [0, 1] rfl
    refine va_calli (va_runV (As := [.int (((xs 1).toUInt32 % 65536).toInt32), .int (xs 2), .int (xs 3)]) (rest := []) ⟨hx, hb, hml, hown, ht⟩ (k_X15_gate l D g z0 _ a (((xs 1).toUInt32 % 65536).toInt32) (xs 2) (xs 3) (isC_i2c _)) (cwV 3 ht (gV w_786 w_788 w_789 w_334 w_787) rfl rfl rfl (by decide +kernel) (le2 rfl rfl)) ⟨PP.blind, va_recv hK.1 hP (ci := 21) (q0 := 0) rfl rfl, PP.mk' hK hZ hz hAz hS hPc hDc⟩ rfl rfl hl.1 rfl (lv_room (Nat.le_of_ble_eq_true rfl)) dL_law_474 (le2 rfl rfl)) hS (fun q _ h => hFc q h) hFc (fun r u t H locs ht1 hvm hw hB hz1 hk1 hS => ?_)
    rcases hw with hw | hw
    · obtain ⟨rfl, rfl, hw⟩ := hw
      rcases hw with hw | hw | hw | hw | hw | hw | hw
      · have c_97 := hw
        exact absurd (by rw [c_97]; unfold gk1; decide) c_96
      · obtain ⟨c_98, c_99, c_100⟩ := hw
        exact absurd (by rw [c_100]; unfold gk2; decide) c_95
      · obtain ⟨c_101, c_102, c_103⟩ := hw
        exact absurd (by rw [c_103]; unfold gk2; decide) c_95
      · obtain ⟨c_104, c_105, c_106⟩ := hw
        exact absurd (by rw [c_106]; unfold gk2; decide) c_95
      · obtain ⟨c_107, c_108, c_109⟩ := hw
        exact absurd (by rw [c_109]; unfold gk2; decide) c_95
      · obtain ⟨c_110, c_111, c_112⟩ := hw
        exact absurd (by rw [c_112]; unfold gk2; decide) c_95
      · obtain ⟨c_113, c_114⟩ := hw
        exact absurd (by rw [c_114]; unfold gk1; decide) c_96
    · obtain ⟨rfl, rfl, hw⟩ := hw
      rcases hw with hw | hw | hw
      · obtain ⟨c_115, c_116, c_117, c_118, c_119, c_120, c_121⟩ := hw
        obtain ⟨hP1, hD1⟩ := hB
        rw [ht1] at hP1
        obtain ⟨hP, hD⟩ := va_join (wr := [(o1, .inl (g 1, 1, .inr (.inl (fun _ => 0))))]) (w1 := [((a 200), .inr (21, [.int 1, .ref (a 201), .ref (a 202), .ref (a 203), .ref (a 204), .ref (a 205), .ref (a 206), .int 0, .int 0, .int 0, .int 0, .ref (a 208), .ref (a 209), .ref (a 210), .ref (a 211), .ref (a 212), .int 4, .int 12, .int (-1), .int 0, .ref (g 200), .ref (a 213), .int 0, .int 97, .ref (a 214), .ref (a 215), .ref (a 207), .null, .int 0]))]) hP hD [0, 1] [2] rfl rfl (by decide) (by decide) hk1 hFc hP1 hD1
        have hP : va_P D vwCl [(o1, .inl (g 1, 1, .inr (.inl (fun _ => 0)))), ((a 200), .inr (21, [.int 1, .ref (a 201), .ref (a 202), .ref (a 203), .ref (a 204), .ref (a 205), .ref (a 206), .int 0, .int 0, .int 0, .int 0, .ref (a 208), .ref (a 209), .ref (a 210), .ref (a 211), .ref (a 212), .int 4, .int 12, .int (-1), .int 0, .ref (g 200), .ref (a 213), .int 0, .int 97, .ref (a 214), .ref (a 215), .ref (a 207), .null, .int 0]))] H := hP
        have hD : va_D (va_A [] s.heap.size) [(o1, .inl (g 1, 1, .inr (.inl (fun _ => 0)))), ((a 200), .inr (21, [.int 1, .ref (a 201), .ref (a 202), .ref (a 203), .ref (a 204), .ref (a 205), .ref (a 206), .int 0, .int 0, .int 0, .int 0, .ref (a 208), .ref (a 209), .ref (a 210), .ref (a 211), .ref (a 212), .int 4, .int 12, .int (-1), .int 0, .ref (g 200), .ref (a 213), .int 0, .int 97, .ref (a 214), .ref (a 215), .ref (a 207), .null, .int 0]))] := hD
        refine lv_istore (lv' := [(7, .int 0), (6, .int 1), (0, .ref b), (1, .ref (a 0)), (2, .ref (a 200)), (3, .ref o1), (4, .ref o2), (5, .int 0)]) hx hb dL_law_477 hl (by decide) rfl (fun ls hl => ?_)
        refine lv_aload_n hx hb dL_law_479 rfl (lv_at hl 4 rfl) ?_
        have hPc : va_P D vwCl [((a 200), .inr (21, [.int 1, .ref (a 201), .ref (a 202), .ref (a 203), .ref (a 204), .ref (a 205), .ref (a 206), .int 0, .int 0, .int 0, .int 0, .ref (a 208), .ref (a 209), .ref (a 210), .ref (a 211), .ref (a 212), .int 4, .int 12, .int (-1), .int 0, .ref (g 200), .ref (a 213), .int 0, .int 97, .ref (a 214), .ref (a 215), .ref (a 207), .null, .int 0]))] _ := hP.sub (ws' := [((a 200), .inr (21, [.int 1, .ref (a 201), .ref (a 202), .ref (a 203), .ref (a 204), .ref (a 205), .ref (a 206), .int 0, .int 0, .int 0, .int 0, .ref (a 208), .ref (a 209), .ref (a 210), .ref (a 211), .ref (a 212), .int 4, .int 12, .int (-1), .int 0, .ref (g 200), .ref (a 213), .int 0, .int 97, .ref (a 214), .ref (a 215), .ref (a 207), .null, .int 0]))]) [1] rfl
        have hDc : va_D (fun q => z0 ≤ q) [((a 200), .inr (21, [.int 1, .ref (a 201), .ref (a 202), .ref (a 203), .ref (a 204), .ref (a 205), .ref (a 206), .int 0, .int 0, .int 0, .int 0, .ref (a 208), .ref (a 209), .ref (a 210), .ref (a 211), .ref (a 212), .int 4, .int 12, .int (-1), .int 0, .ref (g 200), .ref (a 213), .int 0, .int 97, .ref (a 214), .ref (a 215), .ref (a 207), .null, .int 0]))] := (hD.to hAz).pick (ws' := [((a 200), .inr (21, [.int 1, .ref (a 201), .ref (a 202), .ref (a 203), .ref (a 204), .ref (a 205), .ref (a 206), .int 0, .int 0, .int 0, .int 0, .ref (a 208), .ref (a 209), .ref (a 210), .ref (a 211), .ref (a 212), .int 4, .int 12, .int (-1), .int 0, .ref (g 200), .ref (a 213), .int 0, .int 97, .ref (a 214), .ref (a 215), .ref (a 207), .null, .int 0]))]) [1] (by decide) rfl
        have hFc := va_free (wc := [((a 200), .inr (21, [.int 1, .ref (a 201), .ref (a 202), .ref (a 203), .ref (a 204), .ref (a 205), .ref (a 206), .int 0, .int 0, .int 0, .int 0, .ref (a 208), .ref (a 209), .ref (a 210), .ref (a 211), .ref (a 212), .int 4, .int 12, .int (-1), .int 0, .ref (g 200), .ref (a 213), .int 0, .int 97, .ref (a 214), .ref (a 215), .ref (a 207), .null, .int 0]))]) hD hS hA [1] rfl
        refine va_calli (va_runV (As := []) (rest := []) ⟨hx, hb, hml, hown, ht⟩ (k_X15_thrown_v2 l D g z0 _ a) (cwV 0 ht (gV w_772 w_774 w_775 w_334 w_773) rfl rfl rfl (by decide +kernel) (le2 rfl rfl)) ⟨PP.blind, va_recv hK.1 hP (ci := 21) (q0 := 1) rfl rfl, PP.mk' hK hZ hz hAz hS hPc hDc⟩ rfl rfl hl.1 rfl (lv_room (Nat.le_of_ble_eq_true rfl)) dL_law_480 (le2 rfl rfl)) hS (fun q _ h => hFc q h) hFc (fun r u t H locs ht1 hvm hw hB hz1 hk1 hS => ?_)
        obtain ⟨rfl, hw⟩ := hw
        obtain ⟨hP1, hD1⟩ := hB
        rw [ht1] at hP1
        obtain ⟨hP, hD⟩ := va_join (wr := [(o1, .inl (g 1, 1, .inr (.inl (fun _ => 0))))]) (w1 := [((a 200), .inr (21, [.int 1, .ref (a 201), .ref (a 202), .ref (a 203), .ref (a 204), .ref (a 205), .ref (a 206), .int 0, .int 0, .int 0, .int 0, .ref (a 208), .ref (a 209), .ref (a 210), .ref (a 211), .ref (a 212), .int 4, .int 12, .int (-1), .int 0, .ref (g 200), .ref (a 213), .int 0, .int 97, .ref (a 214), .ref (a 215), .ref (a 207), .null, .int 0]))]) hP hD [1] [0] rfl rfl (by decide) (by decide) hk1 hFc hP1 hD1
        have hP : va_P D vwCl [(o1, .inl (g 1, 1, .inr (.inl (fun _ => 0)))), ((a 200), .inr (21, [.int 1, .ref (a 201), .ref (a 202), .ref (a 203), .ref (a 204), .ref (a 205), .ref (a 206), .int 0, .int 0, .int 0, .int 0, .ref (a 208), .ref (a 209), .ref (a 210), .ref (a 211), .ref (a 212), .int 4, .int 12, .int (-1), .int 0, .ref (g 200), .ref (a 213), .int 0, .int 97, .ref (a 214), .ref (a 215), .ref (a 207), .null, .int 0]))] H := hP
        have hD : va_D (va_A [] s.heap.size) [(o1, .inl (g 1, 1, .inr (.inl (fun _ => 0)))), ((a 200), .inr (21, [.int 1, .ref (a 201), .ref (a 202), .ref (a 203), .ref (a 204), .ref (a 205), .ref (a 206), .int 0, .int 0, .int 0, .int 0, .ref (a 208), .ref (a 209), .ref (a 210), .ref (a 211), .ref (a 212), .int 4, .int 12, .int (-1), .int 0, .ref (g 200), .ref (a 213), .int 0, .int 97, .ref (a 214), .ref (a 215), .ref (a 207), .null, .int 0]))] := hD
        refine lv_iload hx hb dL_law_483 (lv_at hl 1 rfl) ?_
        refine lv_icmp_eq (tgt := 490) hx hb dL_law_485 (by decide) (fun c_122 => ?_) (fun c_122 => ?_)
        · refine lv_iload hx hb dL_law_490 (lv_at hl 1 rfl) ?_
          refine lv_if_ne (tgt := 507) hx hb dL_law_492 (by decide) (fun c_123 => ?_) (fun c_123 => ?_)
          · refine lv_goto (tgt := 4264) hx hb dL_law_507 (by decide) ?_
            refine W.widen (k := 200 + 300) (n := 8000 + 2000) (Nat.le_of_ble_eq_true rfl) (Nat.le_of_ble_eq_true rfl) ?_
            exact kk _ _ _ hS (lv_sub hl [7, 2] rfl)
          · exact absurd c_123 (by decide)
        · exact absurd c_122 (by decide)
      · obtain ⟨c_124, c_125, c_126, c_127, c_128, c_129, c_130⟩ := hw
        obtain ⟨hP1, hD1⟩ := hB
        rw [ht1] at hP1
        obtain ⟨hP, hD⟩ := va_join (wr := [(o1, .inl (g 1, 1, .inr (.inl (fun _ => 0))))]) (w1 := [((a 200), .inr (21, [.int 1, .ref (a 201), .ref (a 202), .ref (a 203), .ref (a 204), .ref (a 205), .ref (a 206), .int 0, .int 0, .int 0, .int 0, .ref (a 208), .ref (a 209), .ref (a 210), .ref (a 211), .ref (a 212), .int 4, .int 12, .int (-1), .int 0, .ref (g 200), .ref (a 213), .int 0, .int 97, .ref (a 214), .ref (a 215), .ref (a 207), .null, .int 0]))]) hP hD [0, 1] [2] rfl rfl (by decide) (by decide) hk1 hFc hP1 hD1
        have hP : va_P D vwCl [(o1, .inl (g 1, 1, .inr (.inl (fun _ => 0)))), ((a 200), .inr (21, [.int 1, .ref (a 201), .ref (a 202), .ref (a 203), .ref (a 204), .ref (a 205), .ref (a 206), .int 0, .int 0, .int 0, .int 0, .ref (a 208), .ref (a 209), .ref (a 210), .ref (a 211), .ref (a 212), .int 4, .int 12, .int (-1), .int 0, .ref (g 200), .ref (a 213), .int 0, .int 97, .ref (a 214), .ref (a 215), .ref (a 207), .null, .int 0]))] H := hP
        have hD : va_D (va_A [] s.heap.size) [(o1, .inl (g 1, 1, .inr (.inl (fun _ => 0)))), ((a 200), .inr (21, [.int 1, .ref (a 201), .ref (a 202), .ref (a 203), .ref (a 204), .ref (a 205), .ref (a 206), .int 0, .int 0, .int 0, .int 0, .ref (a 208), .ref (a 209), .ref (a 210), .ref (a 211), .ref (a 212), .int 4, .int 12, .int (-1), .int 0, .ref (g 200), .ref (a 213), .int 0, .int 97, .ref (a 214), .ref (a 215), .ref (a 207), .null, .int 0]))] := hD
        refine lv_istore (lv' := [(7, .int 0), (6, .int 1), (0, .ref b), (1, .ref (a 0)), (2, .ref (a 200)), (3, .ref o1), (4, .ref o2), (5, .int 0)]) hx hb dL_law_477 hl (by decide) rfl (fun ls hl => ?_)
        refine lv_aload_n hx hb dL_law_479 rfl (lv_at hl 4 rfl) ?_
        have hPc : va_P D vwCl [((a 200), .inr (21, [.int 1, .ref (a 201), .ref (a 202), .ref (a 203), .ref (a 204), .ref (a 205), .ref (a 206), .int 0, .int 0, .int 0, .int 0, .ref (a 208), .ref (a 209), .ref (a 210), .ref (a 211), .ref (a 212), .int 4, .int 12, .int (-1), .int 0, .ref (g 200), .ref (a 213), .int 0, .int 97, .ref (a 214), .ref (a 215), .ref (a 207), .null, .int 0]))] _ := hP.sub (ws' := [((a 200), .inr (21, [.int 1, .ref (a 201), .ref (a 202), .ref (a 203), .ref (a 204), .ref (a 205), .ref (a 206), .int 0, .int 0, .int 0, .int 0, .ref (a 208), .ref (a 209), .ref (a 210), .ref (a 211), .ref (a 212), .int 4, .int 12, .int (-1), .int 0, .ref (g 200), .ref (a 213), .int 0, .int 97, .ref (a 214), .ref (a 215), .ref (a 207), .null, .int 0]))]) [1] rfl
        have hDc : va_D (fun q => z0 ≤ q) [((a 200), .inr (21, [.int 1, .ref (a 201), .ref (a 202), .ref (a 203), .ref (a 204), .ref (a 205), .ref (a 206), .int 0, .int 0, .int 0, .int 0, .ref (a 208), .ref (a 209), .ref (a 210), .ref (a 211), .ref (a 212), .int 4, .int 12, .int (-1), .int 0, .ref (g 200), .ref (a 213), .int 0, .int 97, .ref (a 214), .ref (a 215), .ref (a 207), .null, .int 0]))] := (hD.to hAz).pick (ws' := [((a 200), .inr (21, [.int 1, .ref (a 201), .ref (a 202), .ref (a 203), .ref (a 204), .ref (a 205), .ref (a 206), .int 0, .int 0, .int 0, .int 0, .ref (a 208), .ref (a 209), .ref (a 210), .ref (a 211), .ref (a 212), .int 4, .int 12, .int (-1), .int 0, .ref (g 200), .ref (a 213), .int 0, .int 97, .ref (a 214), .ref (a 215), .ref (a 207), .null, .int 0]))]) [1] (by decide) rfl
        have hFc := va_free (wc := [((a 200), .inr (21, [.int 1, .ref (a 201), .ref (a 202), .ref (a 203), .ref (a 204), .ref (a 205), .ref (a 206), .int 0, .int 0, .int 0, .int 0, .ref (a 208), .ref (a 209), .ref (a 210), .ref (a 211), .ref (a 212), .int 4, .int 12, .int (-1), .int 0, .ref (g 200), .ref (a 213), .int 0, .int 97, .ref (a 214), .ref (a 215), .ref (a 207), .null, .int 0]))]) hD hS hA [1] rfl
        refine va_calli (va_runV (As := []) (rest := []) ⟨hx, hb, hml, hown, ht⟩ (k_X15_thrown_v2 l D g z0 _ a) (cwV 0 ht (gV w_772 w_774 w_775 w_334 w_773) rfl rfl rfl (by decide +kernel) (le2 rfl rfl)) ⟨PP.blind, va_recv hK.1 hP (ci := 21) (q0 := 1) rfl rfl, PP.mk' hK hZ hz hAz hS hPc hDc⟩ rfl rfl hl.1 rfl (lv_room (Nat.le_of_ble_eq_true rfl)) dL_law_480 (le2 rfl rfl)) hS (fun q _ h => hFc q h) hFc (fun r u t H locs ht1 hvm hw hB hz1 hk1 hS => ?_)
        obtain ⟨rfl, hw⟩ := hw
        obtain ⟨hP1, hD1⟩ := hB
        rw [ht1] at hP1
        obtain ⟨hP, hD⟩ := va_join (wr := [(o1, .inl (g 1, 1, .inr (.inl (fun _ => 0))))]) (w1 := [((a 200), .inr (21, [.int 1, .ref (a 201), .ref (a 202), .ref (a 203), .ref (a 204), .ref (a 205), .ref (a 206), .int 0, .int 0, .int 0, .int 0, .ref (a 208), .ref (a 209), .ref (a 210), .ref (a 211), .ref (a 212), .int 4, .int 12, .int (-1), .int 0, .ref (g 200), .ref (a 213), .int 0, .int 97, .ref (a 214), .ref (a 215), .ref (a 207), .null, .int 0]))]) hP hD [1] [0] rfl rfl (by decide) (by decide) hk1 hFc hP1 hD1
        have hP : va_P D vwCl [(o1, .inl (g 1, 1, .inr (.inl (fun _ => 0)))), ((a 200), .inr (21, [.int 1, .ref (a 201), .ref (a 202), .ref (a 203), .ref (a 204), .ref (a 205), .ref (a 206), .int 0, .int 0, .int 0, .int 0, .ref (a 208), .ref (a 209), .ref (a 210), .ref (a 211), .ref (a 212), .int 4, .int 12, .int (-1), .int 0, .ref (g 200), .ref (a 213), .int 0, .int 97, .ref (a 214), .ref (a 215), .ref (a 207), .null, .int 0]))] H := hP
        have hD : va_D (va_A [] s.heap.size) [(o1, .inl (g 1, 1, .inr (.inl (fun _ => 0)))), ((a 200), .inr (21, [.int 1, .ref (a 201), .ref (a 202), .ref (a 203), .ref (a 204), .ref (a 205), .ref (a 206), .int 0, .int 0, .int 0, .int 0, .ref (a 208), .ref (a 209), .ref (a 210), .ref (a 211), .ref (a 212), .int 4, .int 12, .int (-1), .int 0, .ref (g 200), .ref (a 213), .int 0, .int 97, .ref (a 214), .ref (a 215), .ref (a 207), .null, .int 0]))] := hD
        refine lv_iload hx hb dL_law_483 (lv_at hl 1 rfl) ?_
        refine lv_icmp_eq (tgt := 490) hx hb dL_law_485 (by decide) (fun c_131 => ?_) (fun c_131 => ?_)
        · refine lv_iload hx hb dL_law_490 (lv_at hl 1 rfl) ?_
          refine lv_if_ne (tgt := 507) hx hb dL_law_492 (by decide) (fun c_132 => ?_) (fun c_132 => ?_)
          · refine lv_goto (tgt := 4264) hx hb dL_law_507 (by decide) ?_
            refine W.widen (k := 200 + 300) (n := 8000 + 2000) (Nat.le_of_ble_eq_true rfl) (Nat.le_of_ble_eq_true rfl) ?_
            exact kk _ _ _ hS (lv_sub hl [7, 2] rfl)
          · exact absurd c_132 (by decide)
        · exact absurd c_131 (by decide)
      · obtain ⟨c_133, c_134, c_135, c_136, c_137, c_138, c_139⟩ := hw
        obtain ⟨hP1, hD1⟩ := hB
        rw [ht1] at hP1
        obtain ⟨hP, hD⟩ := va_join (wr := [(o1, .inl (g 1, 1, .inr (.inl (fun _ => 0))))]) (w1 := [((a 200), .inr (21, [.int 1, .ref (a 201), .ref (a 202), .ref (a 203), .ref (a 204), .ref (a 205), .ref (a 206), .int 0, .int 0, .int 0, .int 0, .ref (a 208), .ref (a 209), .ref (a 210), .ref (a 211), .ref (a 212), .int 4, .int 12, .int (-1), .int 0, .ref (g 200), .ref (a 213), .int 0, .int 97, .ref (a 214), .ref (a 215), .ref (a 207), .null, .int 0]))]) hP hD [0, 1] [2] rfl rfl (by decide) (by decide) hk1 hFc hP1 hD1
        have hP : va_P D vwCl [(o1, .inl (g 1, 1, .inr (.inl (fun _ => 0)))), ((a 200), .inr (21, [.int 1, .ref (a 201), .ref (a 202), .ref (a 203), .ref (a 204), .ref (a 205), .ref (a 206), .int 0, .int 0, .int 0, .int 0, .ref (a 208), .ref (a 209), .ref (a 210), .ref (a 211), .ref (a 212), .int 4, .int 12, .int (-1), .int 0, .ref (g 200), .ref (a 213), .int 0, .int 97, .ref (a 214), .ref (a 215), .ref (a 207), .null, .int 0]))] H := hP
        have hD : va_D (va_A [] s.heap.size) [(o1, .inl (g 1, 1, .inr (.inl (fun _ => 0)))), ((a 200), .inr (21, [.int 1, .ref (a 201), .ref (a 202), .ref (a 203), .ref (a 204), .ref (a 205), .ref (a 206), .int 0, .int 0, .int 0, .int 0, .ref (a 208), .ref (a 209), .ref (a 210), .ref (a 211), .ref (a 212), .int 4, .int 12, .int (-1), .int 0, .ref (g 200), .ref (a 213), .int 0, .int 97, .ref (a 214), .ref (a 215), .ref (a 207), .null, .int 0]))] := hD
        refine lv_istore (lv' := [(7, .int 0), (6, .int 1), (0, .ref b), (1, .ref (a 0)), (2, .ref (a 200)), (3, .ref o1), (4, .ref o2), (5, .int 0)]) hx hb dL_law_477 hl (by decide) rfl (fun ls hl => ?_)
        refine lv_aload_n hx hb dL_law_479 rfl (lv_at hl 4 rfl) ?_
        have hPc : va_P D vwCl [((a 200), .inr (21, [.int 1, .ref (a 201), .ref (a 202), .ref (a 203), .ref (a 204), .ref (a 205), .ref (a 206), .int 0, .int 0, .int 0, .int 0, .ref (a 208), .ref (a 209), .ref (a 210), .ref (a 211), .ref (a 212), .int 4, .int 12, .int (-1), .int 0, .ref (g 200), .ref (a 213), .int 0, .int 97, .ref (a 214), .ref (a 215), .ref (a 207), .null, .int 0]))] _ := hP.sub (ws' := [((a 200), .inr (21, [.int 1, .ref (a 201), .ref (a 202), .ref (a 203), .ref (a 204), .ref (a 205), .ref (a 206), .int 0, .int 0, .int 0, .int 0, .ref (a 208), .ref (a 209), .ref (a 210), .ref (a 211), .ref (a 212), .int 4, .int 12, .int (-1), .int 0, .ref (g 200), .ref (a 213), .int 0, .int 97, .ref (a 214), .ref (a 215), .ref (a 207), .null, .int 0]))]) [1] rfl
        have hDc : va_D (fun q => z0 ≤ q) [((a 200), .inr (21, [.int 1, .ref (a 201), .ref (a 202), .ref (a 203), .ref (a 204), .ref (a 205), .ref (a 206), .int 0, .int 0, .int 0, .int 0, .ref (a 208), .ref (a 209), .ref (a 210), .ref (a 211), .ref (a 212), .int 4, .int 12, .int (-1), .int 0, .ref (g 200), .ref (a 213), .int 0, .int 97, .ref (a 214), .ref (a 215), .ref (a 207), .null, .int 0]))] := (hD.to hAz).pick (ws' := [((a 200), .inr (21, [.int 1, .ref (a 201), .ref (a 202), .ref (a 203), .ref (a 204), .ref (a 205), .ref (a 206), .int 0, .int 0, .int 0, .int 0, .ref (a 208), .ref (a 209), .ref (a 210), .ref (a 211), .ref (a 212), .int 4, .int 12, .int (-1), .int 0, .ref (g 200), .ref (a 213), .int 0, .int 97, .ref (a 214), .ref (a 215), .ref (a 207), .null, .int 0]))]) [1] (by decide) rfl
        have hFc := va_free (wc := [((a 200), .inr (21, [.int 1, .ref (a 201), .ref (a 202), .ref (a 203), .ref (a 204), .ref (a 205), .ref (a 206), .int 0, .int 0, .int 0, .int 0, .ref (a 208), .ref (a 209), .ref (a 210), .ref (a 211), .ref (a 212), .int 4, .int 12, .int (-1), .int 0, .ref (g 200), .ref (a 213), .int 0, .int 97, .ref (a 214), .ref (a 215), .ref (a 207), .null, .int 0]))]) hD hS hA [1] rfl
        refine va_calli (va_runV (As := []) (rest := []) ⟨hx, hb, hml, hown, ht⟩ (k_X15_thrown_v2 l D g z0 _ a) (cwV 0 ht (gV w_772 w_774 w_775 w_334 w_773) rfl rfl rfl (by decide +kernel) (le2 rfl rfl)) ⟨PP.blind, va_recv hK.1 hP (ci := 21) (q0 := 1) rfl rfl, PP.mk' hK hZ hz hAz hS hPc hDc⟩ rfl rfl hl.1 rfl (lv_room (Nat.le_of_ble_eq_true rfl)) dL_law_480 (le2 rfl rfl)) hS (fun q _ h => hFc q h) hFc (fun r u t H locs ht1 hvm hw hB hz1 hk1 hS => ?_)
        obtain ⟨rfl, hw⟩ := hw
        obtain ⟨hP1, hD1⟩ := hB
        rw [ht1] at hP1
        obtain ⟨hP, hD⟩ := va_join (wr := [(o1, .inl (g 1, 1, .inr (.inl (fun _ => 0))))]) (w1 := [((a 200), .inr (21, [.int 1, .ref (a 201), .ref (a 202), .ref (a 203), .ref (a 204), .ref (a 205), .ref (a 206), .int 0, .int 0, .int 0, .int 0, .ref (a 208), .ref (a 209), .ref (a 210), .ref (a 211), .ref (a 212), .int 4, .int 12, .int (-1), .int 0, .ref (g 200), .ref (a 213), .int 0, .int 97, .ref (a 214), .ref (a 215), .ref (a 207), .null, .int 0]))]) hP hD [1] [0] rfl rfl (by decide) (by decide) hk1 hFc hP1 hD1
        have hP : va_P D vwCl [(o1, .inl (g 1, 1, .inr (.inl (fun _ => 0)))), ((a 200), .inr (21, [.int 1, .ref (a 201), .ref (a 202), .ref (a 203), .ref (a 204), .ref (a 205), .ref (a 206), .int 0, .int 0, .int 0, .int 0, .ref (a 208), .ref (a 209), .ref (a 210), .ref (a 211), .ref (a 212), .int 4, .int 12, .int (-1), .int 0, .ref (g 200), .ref (a 213), .int 0, .int 97, .ref (a 214), .ref (a 215), .ref (a 207), .null, .int 0]))] H := hP
        have hD : va_D (va_A [] s.heap.size) [(o1, .inl (g 1, 1, .inr (.inl (fun _ => 0)))), ((a 200), .inr (21, [.int 1, .ref (a 201), .ref (a 202), .ref (a 203), .ref (a 204), .ref (a 205), .ref (a 206), .int 0, .int 0, .int 0, .int 0, .ref (a 208), .ref (a 209), .ref (a 210), .ref (a 211), .ref (a 212), .int 4, .int 12, .int (-1), .int 0, .ref (g 200), .ref (a 213), .int 0, .int 97, .ref (a 214), .ref (a 215), .ref (a 207), .null, .int 0]))] := hD
        refine lv_iload hx hb dL_law_483 (lv_at hl 1 rfl) ?_
        refine lv_icmp_eq (tgt := 490) hx hb dL_law_485 (by decide) (fun c_140 => ?_) (fun c_140 => ?_)
        · refine lv_iload hx hb dL_law_490 (lv_at hl 1 rfl) ?_
          refine lv_if_ne (tgt := 507) hx hb dL_law_492 (by decide) (fun c_141 => ?_) (fun c_141 => ?_)
          · refine lv_goto (tgt := 4264) hx hb dL_law_507 (by decide) ?_
            refine W.widen (k := 200 + 300) (n := 8000 + 2000) (Nat.le_of_ble_eq_true rfl) (Nat.le_of_ble_eq_true rfl) ?_
            exact kk _ _ _ hS (lv_sub hl [7, 2] rfl)
          · exact absurd c_141 (by decide)
        · exact absurd c_140 (by decide)
set_option maxHeartbeats 4000000 in
set_option maxRecDepth 100000 in
theorem lw_case_3 {p : Program} {l : Launch} {e : Env} {s : State} {m : MethodId} {below : List Frame} {meth : Method} {c : Code} {H : Heap} {locs : List Loc} {ls : Array Slot} {Q : State → Prop} {D : va_G} {g : Nat → ClassId} {z0 b : Nat} {xs : Nat → Int32} {a : Nat → Nat} {o1 o2 : Nat} (hfl : l.stackTraces = false) (hx : p.tables.exec = Jvm.exec) (hb : c.code = cL_law) (hml : c.maxLocals = 9) (hown : s.vm.findClass RL = some m.cls) (ht : ∀ w ∈ TG, w.before #[Value.ref b] s = true) (hX : va_X b 6 xs s s.heap) (hbl : b < s.heap.size) (hbA : ¬ va_A [] s.heap.size b) (hK : KK D g s) (hZ : ZZ g z0 s) (hz : z0 ≤ s.heap.size) (hAz : ∀ q, va_A [] s.heap.size q → z0 ≤ q) (hP : va_P D vwCl (lwW a g o1 o2) H) (hD : va_D (va_A [] s.heap.size) (lwW a g o1 o2)) (hS : va_S (va_A [] s.heap.size) s.heap H locs) (hl : lv_has ls 9 [(0, .ref b), (1, .ref (a 0)), (2, .ref (a 200)), (3, .ref o1), (4, .ref o2), (5, .int 0)])
    (kk : ∀ (H : Heap) (locs : List Loc) (ls : Array Slot), va_S (va_A [] s.heap.size) s.heap H locs → lv_has ls 9 [(5, .int 0), (0, .ref b)] → W p l e room_1 s m #[Value.ref b] below meth c H locs (200 + 300) (8000 + 2000) Q (F0 m 4264 ls [])) :
    W p l e room_1 s m #[Value.ref b] below meth c H locs 200 8000 Q (F0 m 510 ls []) := by
  have hA : ∀ q : Nat, s.heap.size ≤ q → va_A [] s.heap.size q := Anw
  have hP := hP.sub (ws' := [((a 0), f_x a), ((a 1), f_net a), ((a 200), f_m a g), ((a 201), .inr (5, [.int 0, .ref (g 100), .int 0])), (o1, .inl (g 1, 1, .inr (.inl (fun _ => 0))))]) [0, 5, 26, 27, 61] rfl
  have hD := hD.sub (ws' := [((a 0), f_x a), ((a 1), f_net a), ((a 200), f_m a g), ((a 201), .inr (5, [.int 0, .ref (g 100), .int 0])), (o1, .inl (g 1, 1, .inr (.inl (fun _ => 0))))]) [0, 5, 26, 27, 61] (by decide) rfl
  refine lv_aload_n hx hb dL_law_510 rfl (lv_at hl 1 rfl) ?_
  refine lv_aload_n hx hb dL_law_511 rfl (lv_at hl 0 rfl) ?_
  refine lv_iload hx hb dL_law_512 (lv_at hl 5 rfl) ?_
  refine lv_iconst (v := 1) hx hb dL_law_514 (by decide) ?_
  refine lv_iadd hx hb dL_law_515 ?_
  refine r_topi (v := 1) (by decide) ?_
  refine va_sld hx hb hX hbl hbA hS (by unfold vp_in; decide) dL_law_516 ?_
  refine r_topi (v := xs 1) (congrArg xs (by decide)) ?_
  refine lv_aload_n hx hb dL_law_517 rfl (lv_at hl 0 rfl) ?_
  refine lv_iload hx hb dL_law_518 (lv_at hl 5 rfl) ?_
  refine lv_iconst (v := 2) hx hb dL_law_520 (by decide) ?_
  refine lv_iadd hx hb dL_law_521 ?_
  refine r_topi (v := 2) (by decide) ?_
  refine va_sld hx hb hX hbl hbA hS (by unfold vp_in; decide) dL_law_522 ?_
  refine r_topi (v := xs 2) (congrArg xs (by decide)) ?_
  refine lv_aload_n hx hb dL_law_523 rfl (lv_at hl 3 rfl) ?_
  have hPc : va_P D vwCl [(o1, .inl (g 1, 1, .inr (.inl (fun _ => 0)))), ((a 0), f_x a), ((a 1), f_net a)] _ := hP.sub (ws' := [(o1, .inl (g 1, 1, .inr (.inl (fun _ => 0)))), ((a 0), f_x a), ((a 1), f_net a)]) [4, 0, 1] rfl
  have hDc : va_D (fun q => z0 ≤ q) [(o1, .inl (g 1, 1, .inr (.inl (fun _ => 0)))), ((a 0), f_x a), ((a 1), f_net a)] := (hD.to hAz).pick (ws' := [(o1, .inl (g 1, 1, .inr (.inl (fun _ => 0)))), ((a 0), f_x a), ((a 1), f_net a)]) [4, 0, 1] (by decide) rfl
  have hFc := va_free (wc := [(o1, .inl (g 1, 1, .inr (.inl (fun _ => 0)))), ((a 0), f_x a), ((a 1), f_net a)]) hD hS hA [4, 0, 1] rfl
  refine va_calli (vx_runSW (As := [.ref (a 0), .int (xs 1), .int (xs 2), .ref o1]) (rest := []) ⟨hx, hb, hml, hown, ht⟩ (k_L_data l hfl D g z0 _ a (xs 1) (xs 2) o1) (vx_cwSW 4 ht (gS w_790 w_792 w_767 w_791) rfl rfl rfl (by decide +kernel) (le2 rfl rfl)) ⟨PP.blind, PP.mk' hK hZ hz hAz hS hPc hDc⟩ rfl rfl hl.1 rfl (lv_room (Nat.le_of_ble_eq_true rfl)) dL_law_524 (le2 rfl rfl)) hS (fun q _ h => hFc q h) hFc (fun r u t H locs ht1 hvm hw hB hz1 hk1 hS => ?_)
  obtain ⟨rfl, hw⟩ := hw
  obtain ⟨hP1, hD1⟩ := hB
  rw [ht1] at hP1
  obtain ⟨hP, hD⟩ := va_join (wr := [((a 200), f_m a g), ((a 201), .inr (5, [.int 0, .ref (g 100), .int 0]))]) (w1 := [(o1, .inl (g 1, 1, .inr (.inl (fun _ => 0))))]) hP hD [4, 0, 1] [2, 3] rfl rfl (by decide) (by decide) hk1 hFc hP1 hD1
  have hP : va_P D vwCl [((a 200), f_m a g), ((a 201), .inr (5, [.int 0, .ref (g 100), .int 0])), (o1, .inl (g 1, 1, .inr (.inl (fun _ => 0))))] H := hP
  have hD : va_D (va_A [] s.heap.size) [((a 200), f_m a g), ((a 201), .inr (5, [.int 0, .ref (g 100), .int 0])), (o1, .inl (g 1, 1, .inr (.inl (fun _ => 0))))] := hD
  refine lv_istore (lv' := [(6, .int 1), (0, .ref b), (1, .ref (a 0)), (2, .ref (a 200)), (3, .ref o1), (4, .ref o2), (5, .int 0)]) hx hb dL_law_527 hl (by decide) rfl (fun ls hl => ?_)
  refine lv_aload_n hx hb dL_law_529 rfl (lv_at hl 3 rfl) ?_
  refine lv_aload_n hx hb dL_law_530 rfl (lv_at hl 1 rfl) ?_
  refine lv_iload hx hb dL_law_531 (lv_at hl 6 rfl) ?_
  refine lv_iconst (v := 1) hx hb dL_law_533 (by decide) ?_
  refine lv_iadd hx hb dL_law_534 ?_
  refine r_topi (v := 1) (by decide) ?_
  refine va_sld hx hb hX hbl hbA hS (by unfold vp_in; decide) dL_law_535 ?_
  refine r_topi (v := xs 1) (congrArg xs (by decide)) ?_
  refine lv_aload_n hx hb dL_law_536 rfl (lv_at hl 1 rfl) ?_
  refine lv_iload hx hb dL_law_537 (lv_at hl 6 rfl) ?_
  refine lv_iconst (v := 2) hx hb dL_law_539 (by decide) ?_
  refine lv_iadd hx hb dL_law_540 ?_
  refine r_topi (v := 2) (by decide) ?_
  refine va_sld hx hb hX hbl hbA hS (by unfold vp_in; decide) dL_law_541 ?_
  refine r_topi (v := xs 2) (congrArg xs (by decide)) ?_
  have hPc : va_P D vwCl [((a 200), f_m a g), ((a 201), .inr (5, [.int 0, .ref (g 100), .int 0]))] _ := hP.sub (ws' := [((a 200), f_m a g), ((a 201), .inr (5, [.int 0, .ref (g 100), .int 0]))]) [0, 1] rfl
  have hDc : va_D (fun q => z0 ≤ q) [((a 200), f_m a g), ((a 201), .inr (5, [.int 0, .ref (g 100), .int 0]))] := (hD.to hAz).pick (ws' := [((a 200), f_m a g), ((a 201), .inr (5, [.int 0, .ref (g 100), .int 0]))]) [0, 1] (by decide) rfl
  have hFc := va_free (wc := [((a 200), f_m a g), ((a 201), .inr (5, [.int 0, .ref (g 100), .int 0]))]) hD hS hA [0, 1] rfl
  refine va_calli (va_runV (As := [.int (xs 1), .int (xs 2)]) (rest := []) ⟨hx, hb, hml, hown, ht⟩ (k_X15_data l D g z0 _ a (xs 1) (xs 2)) (cwV 2 ht (gV w_793 w_795 w_796 w_334 w_794) rfl rfl rfl (by decide +kernel) (le2 rfl rfl)) ⟨PP.blind, va_recv hK.1 hP (ci := 21) (q0 := 0) rfl rfl, PP.mk' hK hZ hz hAz hS hPc hDc⟩ rfl rfl hl.1 rfl (lv_room (Nat.le_of_ble_eq_true rfl)) dL_law_542 (le2 rfl rfl)) hS (fun q _ h => hFc q h) hFc (fun r u t H locs ht1 hvm hw hB hz1 hk1 hS => ?_)
  obtain ⟨rfl, hw⟩ := hw
  obtain ⟨hP1, hD1⟩ := hB
  rw [ht1] at hP1
  obtain ⟨hP, hD⟩ := va_join (wr := [(o1, .inl (g 1, 1, .inr (.inl (fun _ => 0))))]) (w1 := [((a 200), .inr (21, [.int 1, .ref (a 201), .ref (a 202), .ref (a 203), .ref (a 204), .ref (a 205), .ref (a 206), .int 0, .int 0, .int 0, .int 0, .ref (a 208), .ref (a 209), .ref (a 210), .ref (a 211), .ref (a 212), .int 4, .int 12, .int (-1), .int 0, .ref (g 200), .ref (a 213), .int 0, .int 97, .ref (a 214), .ref (a 215), .ref (a 207), .null, .int 0]))]) hP hD [0, 1] [2] rfl rfl (by decide) (by decide) hk1 hFc hP1 hD1
  have hP : va_P D vwCl [(o1, .inl (g 1, 1, .inr (.inl (fun _ => 0)))), ((a 200), .inr (21, [.int 1, .ref (a 201), .ref (a 202), .ref (a 203), .ref (a 204), .ref (a 205), .ref (a 206), .int 0, .int 0, .int 0, .int 0, .ref (a 208), .ref (a 209), .ref (a 210), .ref (a 211), .ref (a 212), .int 4, .int 12, .int (-1), .int 0, .ref (g 200), .ref (a 213), .int 0, .int 97, .ref (a 214), .ref (a 215), .ref (a 207), .null, .int 0]))] H := hP
  have hD : va_D (va_A [] s.heap.size) [(o1, .inl (g 1, 1, .inr (.inl (fun _ => 0)))), ((a 200), .inr (21, [.int 1, .ref (a 201), .ref (a 202), .ref (a 203), .ref (a 204), .ref (a 205), .ref (a 206), .int 0, .int 0, .int 0, .int 0, .ref (a 208), .ref (a 209), .ref (a 210), .ref (a 211), .ref (a 212), .int 4, .int 12, .int (-1), .int 0, .ref (g 200), .ref (a 213), .int 0, .int 97, .ref (a 214), .ref (a 215), .ref (a 207), .null, .int 0]))] := hD
  refine lv_istore (lv' := [(7, .int 0), (6, .int 1), (0, .ref b), (1, .ref (a 0)), (2, .ref (a 200)), (3, .ref o1), (4, .ref o2), (5, .int 0)]) hx hb dL_law_545 hl (by decide) rfl (fun ls hl => ?_)
  refine lv_aload_n hx hb dL_law_547 rfl (lv_at hl 4 rfl) ?_
  have hPc : va_P D vwCl [((a 200), .inr (21, [.int 1, .ref (a 201), .ref (a 202), .ref (a 203), .ref (a 204), .ref (a 205), .ref (a 206), .int 0, .int 0, .int 0, .int 0, .ref (a 208), .ref (a 209), .ref (a 210), .ref (a 211), .ref (a 212), .int 4, .int 12, .int (-1), .int 0, .ref (g 200), .ref (a 213), .int 0, .int 97, .ref (a 214), .ref (a 215), .ref (a 207), .null, .int 0]))] _ := hP.sub (ws' := [((a 200), .inr (21, [.int 1, .ref (a 201), .ref (a 202), .ref (a 203), .ref (a 204), .ref (a 205), .ref (a 206), .int 0, .int 0, .int 0, .int 0, .ref (a 208), .ref (a 209), .ref (a 210), .ref (a 211), .ref (a 212), .int 4, .int 12, .int (-1), .int 0, .ref (g 200), .ref (a 213), .int 0, .int 97, .ref (a 214), .ref (a 215), .ref (a 207), .null, .int 0]))]) [1] rfl
  have hDc : va_D (fun q => z0 ≤ q) [((a 200), .inr (21, [.int 1, .ref (a 201), .ref (a 202), .ref (a 203), .ref (a 204), .ref (a 205), .ref (a 206), .int 0, .int 0, .int 0, .int 0, .ref (a 208), .ref (a 209), .ref (a 210), .ref (a 211), .ref (a 212), .int 4, .int 12, .int (-1), .int 0, .ref (g 200), .ref (a 213), .int 0, .int 97, .ref (a 214), .ref (a 215), .ref (a 207), .null, .int 0]))] := (hD.to hAz).pick (ws' := [((a 200), .inr (21, [.int 1, .ref (a 201), .ref (a 202), .ref (a 203), .ref (a 204), .ref (a 205), .ref (a 206), .int 0, .int 0, .int 0, .int 0, .ref (a 208), .ref (a 209), .ref (a 210), .ref (a 211), .ref (a 212), .int 4, .int 12, .int (-1), .int 0, .ref (g 200), .ref (a 213), .int 0, .int 97, .ref (a 214), .ref (a 215), .ref (a 207), .null, .int 0]))]) [1] (by decide) rfl
  have hFc := va_free (wc := [((a 200), .inr (21, [.int 1, .ref (a 201), .ref (a 202), .ref (a 203), .ref (a 204), .ref (a 205), .ref (a 206), .int 0, .int 0, .int 0, .int 0, .ref (a 208), .ref (a 209), .ref (a 210), .ref (a 211), .ref (a 212), .int 4, .int 12, .int (-1), .int 0, .ref (g 200), .ref (a 213), .int 0, .int 97, .ref (a 214), .ref (a 215), .ref (a 207), .null, .int 0]))]) hD hS hA [1] rfl
  refine va_calli (va_runV (As := []) (rest := []) ⟨hx, hb, hml, hown, ht⟩ (k_X15_thrown_v2 l D g z0 _ a) (cwV 0 ht (gV w_772 w_774 w_775 w_334 w_773) rfl rfl rfl (by decide +kernel) (le2 rfl rfl)) ⟨PP.blind, va_recv hK.1 hP (ci := 21) (q0 := 1) rfl rfl, PP.mk' hK hZ hz hAz hS hPc hDc⟩ rfl rfl hl.1 rfl (lv_room (Nat.le_of_ble_eq_true rfl)) dL_law_548 (le2 rfl rfl)) hS (fun q _ h => hFc q h) hFc (fun r u t H locs ht1 hvm hw hB hz1 hk1 hS => ?_)
  obtain ⟨rfl, hw⟩ := hw
  obtain ⟨hP1, hD1⟩ := hB
  rw [ht1] at hP1
  obtain ⟨hP, hD⟩ := va_join (wr := [(o1, .inl (g 1, 1, .inr (.inl (fun _ => 0))))]) (w1 := [((a 200), .inr (21, [.int 1, .ref (a 201), .ref (a 202), .ref (a 203), .ref (a 204), .ref (a 205), .ref (a 206), .int 0, .int 0, .int 0, .int 0, .ref (a 208), .ref (a 209), .ref (a 210), .ref (a 211), .ref (a 212), .int 4, .int 12, .int (-1), .int 0, .ref (g 200), .ref (a 213), .int 0, .int 97, .ref (a 214), .ref (a 215), .ref (a 207), .null, .int 0]))]) hP hD [1] [0] rfl rfl (by decide) (by decide) hk1 hFc hP1 hD1
  have hP : va_P D vwCl [(o1, .inl (g 1, 1, .inr (.inl (fun _ => 0)))), ((a 200), .inr (21, [.int 1, .ref (a 201), .ref (a 202), .ref (a 203), .ref (a 204), .ref (a 205), .ref (a 206), .int 0, .int 0, .int 0, .int 0, .ref (a 208), .ref (a 209), .ref (a 210), .ref (a 211), .ref (a 212), .int 4, .int 12, .int (-1), .int 0, .ref (g 200), .ref (a 213), .int 0, .int 97, .ref (a 214), .ref (a 215), .ref (a 207), .null, .int 0]))] H := hP
  have hD : va_D (va_A [] s.heap.size) [(o1, .inl (g 1, 1, .inr (.inl (fun _ => 0)))), ((a 200), .inr (21, [.int 1, .ref (a 201), .ref (a 202), .ref (a 203), .ref (a 204), .ref (a 205), .ref (a 206), .int 0, .int 0, .int 0, .int 0, .ref (a 208), .ref (a 209), .ref (a 210), .ref (a 211), .ref (a 212), .int 4, .int 12, .int (-1), .int 0, .ref (g 200), .ref (a 213), .int 0, .int 97, .ref (a 214), .ref (a 215), .ref (a 207), .null, .int 0]))] := hD
  refine lv_iload hx hb dL_law_551 (lv_at hl 1 rfl) ?_
  refine lv_icmp_eq (tgt := 558) hx hb dL_law_553 (by decide) (fun c_1 => ?_) (fun c_1 => ?_)
  · refine lv_iload hx hb dL_law_558 (lv_at hl 1 rfl) ?_
    refine lv_if_ne (tgt := 575) hx hb dL_law_560 (by decide) (fun c_2 => ?_) (fun c_2 => ?_)
    · refine lv_goto (tgt := 4264) hx hb dL_law_575 (by decide) ?_
      refine W.widen (k := 200 + 300) (n := 8000 + 2000) (Nat.le_of_ble_eq_true rfl) (Nat.le_of_ble_eq_true rfl) ?_
      exact kk _ _ _ hS (lv_sub hl [7, 2] rfl)
    · exact absurd c_2 (by decide)
  · exact absurd c_1 (by decide)
set_option maxHeartbeats 4000000 in
set_option maxRecDepth 100000 in
theorem lw_case_4 {p : Program} {l : Launch} {e : Env} {s : State} {m : MethodId} {below : List Frame} {meth : Method} {c : Code} {H : Heap} {locs : List Loc} {ls : Array Slot} {Q : State → Prop} {D : va_G} {g : Nat → ClassId} {z0 b : Nat} {xs : Nat → Int32} {a : Nat → Nat} {o1 o2 : Nat} (hfl : l.stackTraces = false) (hx : p.tables.exec = Jvm.exec) (hb : c.code = cL_law) (hml : c.maxLocals = 9) (hown : s.vm.findClass RL = some m.cls) (ht : ∀ w ∈ TG, w.before #[Value.ref b] s = true) (hX : va_X b 6 xs s s.heap) (hbl : b < s.heap.size) (hbA : ¬ va_A [] s.heap.size b) (hK : KK D g s) (hZ : ZZ g z0 s) (hz : z0 ≤ s.heap.size) (hAz : ∀ q, va_A [] s.heap.size q → z0 ≤ q) (hP : va_P D vwCl (lwW a g o1 o2) H) (hD : va_D (va_A [] s.heap.size) (lwW a g o1 o2)) (hS : va_S (va_A [] s.heap.size) s.heap H locs) (hl : lv_has ls 9 [(0, .ref b), (1, .ref (a 0)), (2, .ref (a 200)), (3, .ref o1), (4, .ref o2), (5, .int 0)])
    (kk : ∀ (H : Heap) (locs : List Loc) (ls : Array Slot), va_S (va_A [] s.heap.size) s.heap H locs → lv_has ls 9 [(5, .int 0), (0, .ref b)] → W p l e room_1 s m #[Value.ref b] below meth c H locs (200 + 300) (8000 + 2000) Q (F0 m 4264 ls [])) :
    W p l e room_1 s m #[Value.ref b] below meth c H locs 200 8000 Q (F0 m 578 ls []) := by
  have hA : ∀ q : Nat, s.heap.size ≤ q → va_A [] s.heap.size q := Anw
  have hP := hP.sub (ws' := [((a 0), f_x a), ((a 1), f_net a), ((a 200), f_m a g), ((a 201), .inr (5, [.int 0, .ref (g 100), .int 0])), (o1, .inl (g 1, 1, .inr (.inl (fun _ => 0))))]) [0, 5, 26, 27, 61] rfl
  have hD := hD.sub (ws' := [((a 0), f_x a), ((a 1), f_net a), ((a 200), f_m a g), ((a 201), .inr (5, [.int 0, .ref (g 100), .int 0])), (o1, .inl (g 1, 1, .inr (.inl (fun _ => 0))))]) [0, 5, 26, 27, 61] (by decide) rfl
  refine lv_aload_n hx hb dL_law_578 rfl (lv_at hl 1 rfl) ?_
  refine lv_aload_n hx hb dL_law_579 rfl (lv_at hl 0 rfl) ?_
  refine lv_iload hx hb dL_law_580 (lv_at hl 5 rfl) ?_
  refine lv_iconst (v := 1) hx hb dL_law_582 (by decide) ?_
  refine lv_iadd hx hb dL_law_583 ?_
  refine r_topi (v := 1) (by decide) ?_
  refine va_sld hx hb hX hbl hbA hS (by unfold vp_in; decide) dL_law_584 ?_
  refine r_topi (v := xs 1) (congrArg xs (by decide)) ?_
  refine lv_aload_n hx hb dL_law_585 rfl (lv_at hl 3 rfl) ?_
  have hPc : va_P D vwCl [(o1, .inl (g 1, 1, .inr (.inl (fun _ => 0)))), ((a 0), f_x a), ((a 1), f_net a)] _ := hP.sub (ws' := [(o1, .inl (g 1, 1, .inr (.inl (fun _ => 0)))), ((a 0), f_x a), ((a 1), f_net a)]) [4, 0, 1] rfl
  have hDc : va_D (fun q => z0 ≤ q) [(o1, .inl (g 1, 1, .inr (.inl (fun _ => 0)))), ((a 0), f_x a), ((a 1), f_net a)] := (hD.to hAz).pick (ws' := [(o1, .inl (g 1, 1, .inr (.inl (fun _ => 0)))), ((a 0), f_x a), ((a 1), f_net a)]) [4, 0, 1] (by decide) rfl
  have hFc := va_free (wc := [(o1, .inl (g 1, 1, .inr (.inl (fun _ => 0)))), ((a 0), f_x a), ((a 1), f_net a)]) hD hS hA [4, 0, 1] rfl
  refine va_calli (vx_runSW (As := [.ref (a 0), .int (xs 1), .ref o1]) (rest := []) ⟨hx, hb, hml, hown, ht⟩ (k_L_output l hfl D g z0 _ a (xs 1) o1) (vx_cwSW 3 ht (gS w_797 w_799 w_767 w_798) rfl rfl rfl (by decide +kernel) (le2 rfl rfl)) ⟨PP.blind, PP.mk' hK hZ hz hAz hS hPc hDc⟩ rfl rfl hl.1 rfl (lv_room (Nat.le_of_ble_eq_true rfl)) dL_law_586 (le2 rfl rfl)) hS (fun q _ h => hFc q h) hFc (fun r u t H locs ht1 hvm hw hB hz1 hk1 hS => ?_)
  obtain ⟨rfl, hw⟩ := hw
  obtain ⟨hP1, hD1⟩ := hB
  rw [ht1] at hP1
  obtain ⟨hP, hD⟩ := va_join (wr := [((a 200), f_m a g), ((a 201), .inr (5, [.int 0, .ref (g 100), .int 0]))]) (w1 := [(o1, .inl (g 1, 1, .inr (.inl (fun _ => 0))))]) hP hD [4, 0, 1] [2, 3] rfl rfl (by decide) (by decide) hk1 hFc hP1 hD1
  have hP : va_P D vwCl [((a 200), f_m a g), ((a 201), .inr (5, [.int 0, .ref (g 100), .int 0])), (o1, .inl (g 1, 1, .inr (.inl (fun _ => 0))))] H := hP
  have hD : va_D (va_A [] s.heap.size) [((a 200), f_m a g), ((a 201), .inr (5, [.int 0, .ref (g 100), .int 0])), (o1, .inl (g 1, 1, .inr (.inl (fun _ => 0))))] := hD
  refine lv_istore (lv' := [(6, .int 1), (0, .ref b), (1, .ref (a 0)), (2, .ref (a 200)), (3, .ref o1), (4, .ref o2), (5, .int 0)]) hx hb dL_law_589 hl (by decide) rfl (fun ls hl => ?_)
  refine lv_aload_n hx hb dL_law_591 rfl (lv_at hl 3 rfl) ?_
  refine lv_aload_n hx hb dL_law_592 rfl (lv_at hl 1 rfl) ?_
  refine lv_iload hx hb dL_law_593 (lv_at hl 6 rfl) ?_
  refine lv_iconst (v := 1) hx hb dL_law_595 (by decide) ?_
  refine lv_iadd hx hb dL_law_596 ?_
  refine r_topi (v := 1) (by decide) ?_
  refine va_sld hx hb hX hbl hbA hS (by unfold vp_in; decide) dL_law_597 ?_
  refine r_topi (v := xs 1) (congrArg xs (by decide)) ?_
  have hPc : va_P D vwCl [((a 200), f_m a g), ((a 201), .inr (5, [.int 0, .ref (g 100), .int 0]))] _ := hP.sub (ws' := [((a 200), f_m a g), ((a 201), .inr (5, [.int 0, .ref (g 100), .int 0]))]) [0, 1] rfl
  have hDc : va_D (fun q => z0 ≤ q) [((a 200), f_m a g), ((a 201), .inr (5, [.int 0, .ref (g 100), .int 0]))] := (hD.to hAz).pick (ws' := [((a 200), f_m a g), ((a 201), .inr (5, [.int 0, .ref (g 100), .int 0]))]) [0, 1] (by decide) rfl
  have hFc := va_free (wc := [((a 200), f_m a g), ((a 201), .inr (5, [.int 0, .ref (g 100), .int 0]))]) hD hS hA [0, 1] rfl
  refine va_calli (va_runV (As := [.int (xs 1)]) (rest := []) ⟨hx, hb, hml, hown, ht⟩ (k_X15_output l D g z0 _ a (xs 1)) (cwV 1 ht (gV w_800 w_802 w_803 w_334 w_801) rfl rfl rfl (by decide +kernel) (le2 rfl rfl)) ⟨PP.blind, va_recv hK.1 hP (ci := 21) (q0 := 0) rfl rfl, PP.mk' hK hZ hz hAz hS hPc hDc⟩ rfl rfl hl.1 rfl (lv_room (Nat.le_of_ble_eq_true rfl)) dL_law_598 (le2 rfl rfl)) hS (fun q _ h => hFc q h) hFc (fun r u t H locs ht1 hvm hw hB hz1 hk1 hS => ?_)
  obtain ⟨rfl, hw⟩ := hw
  obtain ⟨hP1, hD1⟩ := hB
  rw [ht1] at hP1
  obtain ⟨hP, hD⟩ := va_join (wr := [(o1, .inl (g 1, 1, .inr (.inl (fun _ => 0))))]) (w1 := [((a 200), .inr (21, [.int 1, .ref (a 201), .ref (a 202), .ref (a 203), .ref (a 204), .ref (a 205), .ref (a 206), .int 0, .int 0, .int 0, .int 0, .ref (a 208), .ref (a 209), .ref (a 210), .ref (a 211), .ref (a 212), .int 4, .int 12, .int (-1), .int 0, .ref (g 200), .ref (a 213), .int 0, .int 97, .ref (a 214), .ref (a 215), .ref (a 207), .null, .int 0]))]) hP hD [0, 1] [2] rfl rfl (by decide) (by decide) hk1 hFc hP1 hD1
  have hP : va_P D vwCl [(o1, .inl (g 1, 1, .inr (.inl (fun _ => 0)))), ((a 200), .inr (21, [.int 1, .ref (a 201), .ref (a 202), .ref (a 203), .ref (a 204), .ref (a 205), .ref (a 206), .int 0, .int 0, .int 0, .int 0, .ref (a 208), .ref (a 209), .ref (a 210), .ref (a 211), .ref (a 212), .int 4, .int 12, .int (-1), .int 0, .ref (g 200), .ref (a 213), .int 0, .int 97, .ref (a 214), .ref (a 215), .ref (a 207), .null, .int 0]))] H := hP
  have hD : va_D (va_A [] s.heap.size) [(o1, .inl (g 1, 1, .inr (.inl (fun _ => 0)))), ((a 200), .inr (21, [.int 1, .ref (a 201), .ref (a 202), .ref (a 203), .ref (a 204), .ref (a 205), .ref (a 206), .int 0, .int 0, .int 0, .int 0, .ref (a 208), .ref (a 209), .ref (a 210), .ref (a 211), .ref (a 212), .int 4, .int 12, .int (-1), .int 0, .ref (g 200), .ref (a 213), .int 0, .int 97, .ref (a 214), .ref (a 215), .ref (a 207), .null, .int 0]))] := hD
  refine lv_istore (lv' := [(7, .int 0), (6, .int 1), (0, .ref b), (1, .ref (a 0)), (2, .ref (a 200)), (3, .ref o1), (4, .ref o2), (5, .int 0)]) hx hb dL_law_601 hl (by decide) rfl (fun ls hl => ?_)
  refine lv_aload_n hx hb dL_law_603 rfl (lv_at hl 4 rfl) ?_
  have hPc : va_P D vwCl [((a 200), .inr (21, [.int 1, .ref (a 201), .ref (a 202), .ref (a 203), .ref (a 204), .ref (a 205), .ref (a 206), .int 0, .int 0, .int 0, .int 0, .ref (a 208), .ref (a 209), .ref (a 210), .ref (a 211), .ref (a 212), .int 4, .int 12, .int (-1), .int 0, .ref (g 200), .ref (a 213), .int 0, .int 97, .ref (a 214), .ref (a 215), .ref (a 207), .null, .int 0]))] _ := hP.sub (ws' := [((a 200), .inr (21, [.int 1, .ref (a 201), .ref (a 202), .ref (a 203), .ref (a 204), .ref (a 205), .ref (a 206), .int 0, .int 0, .int 0, .int 0, .ref (a 208), .ref (a 209), .ref (a 210), .ref (a 211), .ref (a 212), .int 4, .int 12, .int (-1), .int 0, .ref (g 200), .ref (a 213), .int 0, .int 97, .ref (a 214), .ref (a 215), .ref (a 207), .null, .int 0]))]) [1] rfl
  have hDc : va_D (fun q => z0 ≤ q) [((a 200), .inr (21, [.int 1, .ref (a 201), .ref (a 202), .ref (a 203), .ref (a 204), .ref (a 205), .ref (a 206), .int 0, .int 0, .int 0, .int 0, .ref (a 208), .ref (a 209), .ref (a 210), .ref (a 211), .ref (a 212), .int 4, .int 12, .int (-1), .int 0, .ref (g 200), .ref (a 213), .int 0, .int 97, .ref (a 214), .ref (a 215), .ref (a 207), .null, .int 0]))] := (hD.to hAz).pick (ws' := [((a 200), .inr (21, [.int 1, .ref (a 201), .ref (a 202), .ref (a 203), .ref (a 204), .ref (a 205), .ref (a 206), .int 0, .int 0, .int 0, .int 0, .ref (a 208), .ref (a 209), .ref (a 210), .ref (a 211), .ref (a 212), .int 4, .int 12, .int (-1), .int 0, .ref (g 200), .ref (a 213), .int 0, .int 97, .ref (a 214), .ref (a 215), .ref (a 207), .null, .int 0]))]) [1] (by decide) rfl
  have hFc := va_free (wc := [((a 200), .inr (21, [.int 1, .ref (a 201), .ref (a 202), .ref (a 203), .ref (a 204), .ref (a 205), .ref (a 206), .int 0, .int 0, .int 0, .int 0, .ref (a 208), .ref (a 209), .ref (a 210), .ref (a 211), .ref (a 212), .int 4, .int 12, .int (-1), .int 0, .ref (g 200), .ref (a 213), .int 0, .int 97, .ref (a 214), .ref (a 215), .ref (a 207), .null, .int 0]))]) hD hS hA [1] rfl
  refine va_calli (va_runV (As := []) (rest := []) ⟨hx, hb, hml, hown, ht⟩ (k_X15_thrown_v2 l D g z0 _ a) (cwV 0 ht (gV w_772 w_774 w_775 w_334 w_773) rfl rfl rfl (by decide +kernel) (le2 rfl rfl)) ⟨PP.blind, va_recv hK.1 hP (ci := 21) (q0 := 1) rfl rfl, PP.mk' hK hZ hz hAz hS hPc hDc⟩ rfl rfl hl.1 rfl (lv_room (Nat.le_of_ble_eq_true rfl)) dL_law_604 (le2 rfl rfl)) hS (fun q _ h => hFc q h) hFc (fun r u t H locs ht1 hvm hw hB hz1 hk1 hS => ?_)
  obtain ⟨rfl, hw⟩ := hw
  obtain ⟨hP1, hD1⟩ := hB
  rw [ht1] at hP1
  obtain ⟨hP, hD⟩ := va_join (wr := [(o1, .inl (g 1, 1, .inr (.inl (fun _ => 0))))]) (w1 := [((a 200), .inr (21, [.int 1, .ref (a 201), .ref (a 202), .ref (a 203), .ref (a 204), .ref (a 205), .ref (a 206), .int 0, .int 0, .int 0, .int 0, .ref (a 208), .ref (a 209), .ref (a 210), .ref (a 211), .ref (a 212), .int 4, .int 12, .int (-1), .int 0, .ref (g 200), .ref (a 213), .int 0, .int 97, .ref (a 214), .ref (a 215), .ref (a 207), .null, .int 0]))]) hP hD [1] [0] rfl rfl (by decide) (by decide) hk1 hFc hP1 hD1
  have hP : va_P D vwCl [(o1, .inl (g 1, 1, .inr (.inl (fun _ => 0)))), ((a 200), .inr (21, [.int 1, .ref (a 201), .ref (a 202), .ref (a 203), .ref (a 204), .ref (a 205), .ref (a 206), .int 0, .int 0, .int 0, .int 0, .ref (a 208), .ref (a 209), .ref (a 210), .ref (a 211), .ref (a 212), .int 4, .int 12, .int (-1), .int 0, .ref (g 200), .ref (a 213), .int 0, .int 97, .ref (a 214), .ref (a 215), .ref (a 207), .null, .int 0]))] H := hP
  have hD : va_D (va_A [] s.heap.size) [(o1, .inl (g 1, 1, .inr (.inl (fun _ => 0)))), ((a 200), .inr (21, [.int 1, .ref (a 201), .ref (a 202), .ref (a 203), .ref (a 204), .ref (a 205), .ref (a 206), .int 0, .int 0, .int 0, .int 0, .ref (a 208), .ref (a 209), .ref (a 210), .ref (a 211), .ref (a 212), .int 4, .int 12, .int (-1), .int 0, .ref (g 200), .ref (a 213), .int 0, .int 97, .ref (a 214), .ref (a 215), .ref (a 207), .null, .int 0]))] := hD
  refine lv_iload hx hb dL_law_607 (lv_at hl 1 rfl) ?_
  refine lv_icmp_eq (tgt := 614) hx hb dL_law_609 (by decide) (fun c_1 => ?_) (fun c_1 => ?_)
  · refine lv_iload hx hb dL_law_614 (lv_at hl 1 rfl) ?_
    refine lv_if_ne (tgt := 638) hx hb dL_law_616 (by decide) (fun c_2 => ?_) (fun c_2 => ?_)
    · refine lv_goto (tgt := 4264) hx hb dL_law_638 (by decide) ?_
      refine W.widen (k := 200 + 300) (n := 8000 + 2000) (Nat.le_of_ble_eq_true rfl) (Nat.le_of_ble_eq_true rfl) ?_
      exact kk _ _ _ hS (lv_sub hl [7, 2] rfl)
    · exact absurd c_2 (by decide)
  · exact absurd c_1 (by decide)
set_option maxHeartbeats 4000000 in
set_option maxRecDepth 100000 in
theorem lw_case_5 {p : Program} {l : Launch} {e : Env} {s : State} {m : MethodId} {below : List Frame} {meth : Method} {c : Code} {H : Heap} {locs : List Loc} {ls : Array Slot} {Q : State → Prop} {D : va_G} {g : Nat → ClassId} {z0 b : Nat} {xs : Nat → Int32} {a : Nat → Nat} {o1 o2 : Nat} (hfl : l.stackTraces = false) (hx : p.tables.exec = Jvm.exec) (hb : c.code = cL_law) (hml : c.maxLocals = 9) (hown : s.vm.findClass RL = some m.cls) (ht : ∀ w ∈ TG, w.before #[Value.ref b] s = true) (hX : va_X b 6 xs s s.heap) (hbl : b < s.heap.size) (hbA : ¬ va_A [] s.heap.size b) (hK : KK D g s) (hZ : ZZ g z0 s) (hz : z0 ≤ s.heap.size) (hAz : ∀ q, va_A [] s.heap.size q → z0 ≤ q) (hP : va_P D vwCl (lwW a g o1 o2) H) (hD : va_D (va_A [] s.heap.size) (lwW a g o1 o2)) (hS : va_S (va_A [] s.heap.size) s.heap H locs) (hl : lv_has ls 9 [(0, .ref b), (1, .ref (a 0)), (2, .ref (a 200)), (3, .ref o1), (4, .ref o2), (5, .int 0)])
    (kk : ∀ (H : Heap) (locs : List Loc) (ls : Array Slot), va_S (va_A [] s.heap.size) s.heap H locs → lv_has ls 9 [(5, .int 0), (0, .ref b)] → W p l e room_1 s m #[Value.ref b] below meth c H locs (200 + 300) (8000 + 2000) Q (F0 m 4264 ls [])) :
    W p l e room_1 s m #[Value.ref b] below meth c H locs 200 8000 Q (F0 m 641 ls []) := by
  have hA : ∀ q : Nat, s.heap.size ≤ q → va_A [] s.heap.size q := Anw
  have hP := hP.sub (ws' := [((a 0), f_x a), ((a 1), f_net a), ((a 200), f_m a g), ((a 201), .inr (5, [.int 0, .ref (g 100), .int 0])), (o1, .inl (g 1, 1, .inr (.inl (fun _ => 0))))]) [0, 5, 26, 27, 61] rfl
  have hD := hD.sub (ws' := [((a 0), f_x a), ((a 1), f_net a), ((a 200), f_m a g), ((a 201), .inr (5, [.int 0, .ref (g 100), .int 0])), (o1, .inl (g 1, 1, .inr (.inl (fun _ => 0))))]) [0, 5, 26, 27, 61] (by decide) rfl
  refine lv_aload_n hx hb dL_law_641 rfl (lv_at hl 1 rfl) ?_
  refine lv_aload_n hx hb dL_law_642 rfl (lv_at hl 3 rfl) ?_
  have hPc : va_P D vwCl [(o1, .inl (g 1, 1, .inr (.inl (fun _ => 0)))), ((a 0), f_x a), ((a 1), f_net a)] _ := hP.sub (ws' := [(o1, .inl (g 1, 1, .inr (.inl (fun _ => 0)))), ((a 0), f_x a), ((a 1), f_net a)]) [4, 0, 1] rfl
  have hDc : va_D (fun q => z0 ≤ q) [(o1, .inl (g 1, 1, .inr (.inl (fun _ => 0)))), ((a 0), f_x a), ((a 1), f_net a)] := (hD.to hAz).pick (ws' := [(o1, .inl (g 1, 1, .inr (.inl (fun _ => 0)))), ((a 0), f_x a), ((a 1), f_net a)]) [4, 0, 1] (by decide) rfl
  have hFc := va_free (wc := [(o1, .inl (g 1, 1, .inr (.inl (fun _ => 0)))), ((a 0), f_x a), ((a 1), f_net a)]) hD hS hA [4, 0, 1] rfl
  refine va_calli (vx_runSW (As := [.ref (a 0), .ref o1]) (rest := []) ⟨hx, hb, hml, hown, ht⟩ (k_L_close l hfl D g z0 _ a o1) (vx_cwSW 2 ht (gS w_804 w_806 w_767 w_805) rfl rfl rfl (by decide +kernel) (le2 rfl rfl)) ⟨PP.blind, PP.mk' hK hZ hz hAz hS hPc hDc⟩ rfl rfl hl.1 rfl (lv_room (Nat.le_of_ble_eq_true rfl)) dL_law_643 (le2 rfl rfl)) hS (fun q _ h => hFc q h) hFc (fun r u t H locs ht1 hvm hw hB hz1 hk1 hS => ?_)
  obtain ⟨rfl, hw⟩ := hw
  obtain ⟨hP1, hD1⟩ := hB
  rw [ht1] at hP1
  obtain ⟨hP, hD⟩ := va_join (wr := [((a 200), f_m a g), ((a 201), .inr (5, [.int 0, .ref (g 100), .int 0]))]) (w1 := [(o1, .inl (g 1, 1, .inr (.inl (fun _ => 0))))]) hP hD [4, 0, 1] [2, 3] rfl rfl (by decide) (by decide) hk1 hFc hP1 hD1
  have hP : va_P D vwCl [((a 200), f_m a g), ((a 201), .inr (5, [.int 0, .ref (g 100), .int 0])), (o1, .inl (g 1, 1, .inr (.inl (fun _ => 0))))] H := hP
  have hD : va_D (va_A [] s.heap.size) [((a 200), f_m a g), ((a 201), .inr (5, [.int 0, .ref (g 100), .int 0])), (o1, .inl (g 1, 1, .inr (.inl (fun _ => 0))))] := hD
  refine lv_istore (lv' := [(6, .int 1), (0, .ref b), (1, .ref (a 0)), (2, .ref (a 200)), (3, .ref o1), (4, .ref o2), (5, .int 0)]) hx hb dL_law_646 hl (by decide) rfl (fun ls hl => ?_)
  refine lv_aload_n hx hb dL_law_648 rfl (lv_at hl 3 rfl) ?_
  have hPc : va_P D vwCl [((a 200), f_m a g), ((a 201), .inr (5, [.int 0, .ref (g 100), .int 0]))] _ := hP.sub (ws' := [((a 200), f_m a g), ((a 201), .inr (5, [.int 0, .ref (g 100), .int 0]))]) [0, 1] rfl
  have hDc : va_D (fun q => z0 ≤ q) [((a 200), f_m a g), ((a 201), .inr (5, [.int 0, .ref (g 100), .int 0]))] := (hD.to hAz).pick (ws' := [((a 200), f_m a g), ((a 201), .inr (5, [.int 0, .ref (g 100), .int 0]))]) [0, 1] (by decide) rfl
  have hFc := va_free (wc := [((a 200), f_m a g), ((a 201), .inr (5, [.int 0, .ref (g 100), .int 0]))]) hD hS hA [0, 1] rfl
  refine va_calli (va_runV (As := []) (rest := []) ⟨hx, hb, hml, hown, ht⟩ (k_X15_close l D g z0 _ a) (cwV 0 ht (gV w_807 w_809 w_810 w_334 w_808) rfl rfl rfl (by decide +kernel) (le2 rfl rfl)) ⟨PP.blind, va_recv hK.1 hP (ci := 21) (q0 := 0) rfl rfl, PP.mk' hK hZ hz hAz hS hPc hDc⟩ rfl rfl hl.1 rfl (lv_room (Nat.le_of_ble_eq_true rfl)) dL_law_649 (le2 rfl rfl)) hS (fun q _ h => hFc q h) hFc (fun r u t H locs ht1 hvm hw hB hz1 hk1 hS => ?_)
  obtain ⟨rfl, hw⟩ := hw
  obtain ⟨hP1, hD1⟩ := hB
  rw [ht1] at hP1
  obtain ⟨hP, hD⟩ := va_join (wr := [(o1, .inl (g 1, 1, .inr (.inl (fun _ => 0))))]) (w1 := [((a 200), .inr (21, [.int 1, .ref (a 201), .ref (a 202), .ref (a 203), .ref (a 204), .ref (a 205), .ref (a 206), .int 0, .int 0, .int 0, .int 0, .ref (a 208), .ref (a 209), .ref (a 210), .ref (a 211), .ref (a 212), .int 4, .int 12, .int (-1), .int 0, .ref (g 200), .ref (a 213), .int 0, .int 97, .ref (a 214), .ref (a 215), .ref (a 207), .null, .int 0]))]) hP hD [0, 1] [2] rfl rfl (by decide) (by decide) hk1 hFc hP1 hD1
  have hP : va_P D vwCl [(o1, .inl (g 1, 1, .inr (.inl (fun _ => 0)))), ((a 200), .inr (21, [.int 1, .ref (a 201), .ref (a 202), .ref (a 203), .ref (a 204), .ref (a 205), .ref (a 206), .int 0, .int 0, .int 0, .int 0, .ref (a 208), .ref (a 209), .ref (a 210), .ref (a 211), .ref (a 212), .int 4, .int 12, .int (-1), .int 0, .ref (g 200), .ref (a 213), .int 0, .int 97, .ref (a 214), .ref (a 215), .ref (a 207), .null, .int 0]))] H := hP
  have hD : va_D (va_A [] s.heap.size) [(o1, .inl (g 1, 1, .inr (.inl (fun _ => 0)))), ((a 200), .inr (21, [.int 1, .ref (a 201), .ref (a 202), .ref (a 203), .ref (a 204), .ref (a 205), .ref (a 206), .int 0, .int 0, .int 0, .int 0, .ref (a 208), .ref (a 209), .ref (a 210), .ref (a 211), .ref (a 212), .int 4, .int 12, .int (-1), .int 0, .ref (g 200), .ref (a 213), .int 0, .int 97, .ref (a 214), .ref (a 215), .ref (a 207), .null, .int 0]))] := hD
  refine lv_istore (lv' := [(7, .int 0), (6, .int 1), (0, .ref b), (1, .ref (a 0)), (2, .ref (a 200)), (3, .ref o1), (4, .ref o2), (5, .int 0)]) hx hb dL_law_652 hl (by decide) rfl (fun ls hl => ?_)
  refine lv_aload_n hx hb dL_law_654 rfl (lv_at hl 4 rfl) ?_
  have hPc : va_P D vwCl [((a 200), .inr (21, [.int 1, .ref (a 201), .ref (a 202), .ref (a 203), .ref (a 204), .ref (a 205), .ref (a 206), .int 0, .int 0, .int 0, .int 0, .ref (a 208), .ref (a 209), .ref (a 210), .ref (a 211), .ref (a 212), .int 4, .int 12, .int (-1), .int 0, .ref (g 200), .ref (a 213), .int 0, .int 97, .ref (a 214), .ref (a 215), .ref (a 207), .null, .int 0]))] _ := hP.sub (ws' := [((a 200), .inr (21, [.int 1, .ref (a 201), .ref (a 202), .ref (a 203), .ref (a 204), .ref (a 205), .ref (a 206), .int 0, .int 0, .int 0, .int 0, .ref (a 208), .ref (a 209), .ref (a 210), .ref (a 211), .ref (a 212), .int 4, .int 12, .int (-1), .int 0, .ref (g 200), .ref (a 213), .int 0, .int 97, .ref (a 214), .ref (a 215), .ref (a 207), .null, .int 0]))]) [1] rfl
  have hDc : va_D (fun q => z0 ≤ q) [((a 200), .inr (21, [.int 1, .ref (a 201), .ref (a 202), .ref (a 203), .ref (a 204), .ref (a 205), .ref (a 206), .int 0, .int 0, .int 0, .int 0, .ref (a 208), .ref (a 209), .ref (a 210), .ref (a 211), .ref (a 212), .int 4, .int 12, .int (-1), .int 0, .ref (g 200), .ref (a 213), .int 0, .int 97, .ref (a 214), .ref (a 215), .ref (a 207), .null, .int 0]))] := (hD.to hAz).pick (ws' := [((a 200), .inr (21, [.int 1, .ref (a 201), .ref (a 202), .ref (a 203), .ref (a 204), .ref (a 205), .ref (a 206), .int 0, .int 0, .int 0, .int 0, .ref (a 208), .ref (a 209), .ref (a 210), .ref (a 211), .ref (a 212), .int 4, .int 12, .int (-1), .int 0, .ref (g 200), .ref (a 213), .int 0, .int 97, .ref (a 214), .ref (a 215), .ref (a 207), .null, .int 0]))]) [1] (by decide) rfl
  have hFc := va_free (wc := [((a 200), .inr (21, [.int 1, .ref (a 201), .ref (a 202), .ref (a 203), .ref (a 204), .ref (a 205), .ref (a 206), .int 0, .int 0, .int 0, .int 0, .ref (a 208), .ref (a 209), .ref (a 210), .ref (a 211), .ref (a 212), .int 4, .int 12, .int (-1), .int 0, .ref (g 200), .ref (a 213), .int 0, .int 97, .ref (a 214), .ref (a 215), .ref (a 207), .null, .int 0]))]) hD hS hA [1] rfl
  refine va_calli (va_runV (As := []) (rest := []) ⟨hx, hb, hml, hown, ht⟩ (k_X15_thrown_v2 l D g z0 _ a) (cwV 0 ht (gV w_772 w_774 w_775 w_334 w_773) rfl rfl rfl (by decide +kernel) (le2 rfl rfl)) ⟨PP.blind, va_recv hK.1 hP (ci := 21) (q0 := 1) rfl rfl, PP.mk' hK hZ hz hAz hS hPc hDc⟩ rfl rfl hl.1 rfl (lv_room (Nat.le_of_ble_eq_true rfl)) dL_law_655 (le2 rfl rfl)) hS (fun q _ h => hFc q h) hFc (fun r u t H locs ht1 hvm hw hB hz1 hk1 hS => ?_)
  obtain ⟨rfl, hw⟩ := hw
  obtain ⟨hP1, hD1⟩ := hB
  rw [ht1] at hP1
  obtain ⟨hP, hD⟩ := va_join (wr := [(o1, .inl (g 1, 1, .inr (.inl (fun _ => 0))))]) (w1 := [((a 200), .inr (21, [.int 1, .ref (a 201), .ref (a 202), .ref (a 203), .ref (a 204), .ref (a 205), .ref (a 206), .int 0, .int 0, .int 0, .int 0, .ref (a 208), .ref (a 209), .ref (a 210), .ref (a 211), .ref (a 212), .int 4, .int 12, .int (-1), .int 0, .ref (g 200), .ref (a 213), .int 0, .int 97, .ref (a 214), .ref (a 215), .ref (a 207), .null, .int 0]))]) hP hD [1] [0] rfl rfl (by decide) (by decide) hk1 hFc hP1 hD1
  have hP : va_P D vwCl [(o1, .inl (g 1, 1, .inr (.inl (fun _ => 0)))), ((a 200), .inr (21, [.int 1, .ref (a 201), .ref (a 202), .ref (a 203), .ref (a 204), .ref (a 205), .ref (a 206), .int 0, .int 0, .int 0, .int 0, .ref (a 208), .ref (a 209), .ref (a 210), .ref (a 211), .ref (a 212), .int 4, .int 12, .int (-1), .int 0, .ref (g 200), .ref (a 213), .int 0, .int 97, .ref (a 214), .ref (a 215), .ref (a 207), .null, .int 0]))] H := hP
  have hD : va_D (va_A [] s.heap.size) [(o1, .inl (g 1, 1, .inr (.inl (fun _ => 0)))), ((a 200), .inr (21, [.int 1, .ref (a 201), .ref (a 202), .ref (a 203), .ref (a 204), .ref (a 205), .ref (a 206), .int 0, .int 0, .int 0, .int 0, .ref (a 208), .ref (a 209), .ref (a 210), .ref (a 211), .ref (a 212), .int 4, .int 12, .int (-1), .int 0, .ref (g 200), .ref (a 213), .int 0, .int 97, .ref (a 214), .ref (a 215), .ref (a 207), .null, .int 0]))] := hD
  refine lv_iload hx hb dL_law_658 (lv_at hl 1 rfl) ?_
  refine lv_icmp_eq (tgt := 665) hx hb dL_law_660 (by decide) (fun c_1 => ?_) (fun c_1 => ?_)
  · refine lv_iload hx hb dL_law_665 (lv_at hl 1 rfl) ?_
    refine lv_if_ne (tgt := 682) hx hb dL_law_667 (by decide) (fun c_2 => ?_) (fun c_2 => ?_)
    · refine lv_goto (tgt := 4264) hx hb dL_law_682 (by decide) ?_
      refine W.widen (k := 200 + 300) (n := 8000 + 2000) (Nat.le_of_ble_eq_true rfl) (Nat.le_of_ble_eq_true rfl) ?_
      exact kk _ _ _ hS (lv_sub hl [7, 2] rfl)
    · exact absurd c_2 (by decide)
  · exact absurd c_1 (by decide)
set_option maxHeartbeats 4000000 in
set_option maxRecDepth 100000 in
theorem lw_case_6 {p : Program} {l : Launch} {e : Env} {s : State} {m : MethodId} {below : List Frame} {meth : Method} {c : Code} {H : Heap} {locs : List Loc} {ls : Array Slot} {Q : State → Prop} {D : va_G} {g : Nat → ClassId} {z0 b : Nat} {xs : Nat → Int32} {a : Nat → Nat} {o1 o2 : Nat} (hfl : l.stackTraces = false) (hx : p.tables.exec = Jvm.exec) (hb : c.code = cL_law) (hml : c.maxLocals = 9) (hown : s.vm.findClass RL = some m.cls) (ht : ∀ w ∈ TG, w.before #[Value.ref b] s = true) (hX : va_X b 6 xs s s.heap) (hbl : b < s.heap.size) (hbA : ¬ va_A [] s.heap.size b) (hK : KK D g s) (hZ : ZZ g z0 s) (hz : z0 ≤ s.heap.size) (hAz : ∀ q, va_A [] s.heap.size q → z0 ≤ q) (hP : va_P D vwCl (lwW a g o1 o2) H) (hD : va_D (va_A [] s.heap.size) (lwW a g o1 o2)) (hS : va_S (va_A [] s.heap.size) s.heap H locs) (hl : lv_has ls 9 [(0, .ref b), (1, .ref (a 0)), (2, .ref (a 200)), (3, .ref o1), (4, .ref o2), (5, .int 0)])
    (kk : ∀ (H : Heap) (locs : List Loc) (ls : Array Slot), va_S (va_A [] s.heap.size) s.heap H locs → lv_has ls 9 [(5, .int 0), (0, .ref b)] → W p l e room_1 s m #[Value.ref b] below meth c H locs (200 + 300) (8000 + 2000) Q (F0 m 4264 ls [])) :
    W p l e room_1 s m #[Value.ref b] below meth c H locs 200 8000 Q (F0 m 685 ls []) := by
  have hA : ∀ q : Nat, s.heap.size ≤ q → va_A [] s.heap.size q := Anw
  have hP := hP.sub (ws' := [((a 0), f_x a), ((a 1), f_net a), ((a 200), f_m a g), ((a 201), .inr (5, [.int 0, .ref (g 100), .int 0])), (o1, .inl (g 1, 1, .inr (.inl (fun _ => 0))))]) [0, 5, 26, 27, 61] rfl
  have hD := hD.sub (ws' := [((a 0), f_x a), ((a 1), f_net a), ((a 200), f_m a g), ((a 201), .inr (5, [.int 0, .ref (g 100), .int 0])), (o1, .inl (g 1, 1, .inr (.inl (fun _ => 0))))]) [0, 5, 26, 27, 61] (by decide) rfl
  refine lv_aload_n hx hb dL_law_685 rfl (lv_at hl 1 rfl) ?_
  refine lv_aload_n hx hb dL_law_686 rfl (lv_at hl 0 rfl) ?_
  refine lv_iload hx hb dL_law_687 (lv_at hl 5 rfl) ?_
  refine lv_iconst (v := 1) hx hb dL_law_689 (by decide) ?_
  refine lv_iadd hx hb dL_law_690 ?_
  refine r_topi (v := 1) (by decide) ?_
  refine va_sld hx hb hX hbl hbA hS (by unfold vp_in; decide) dL_law_691 ?_
  refine r_topi (v := xs 1) (congrArg xs (by decide)) ?_
  refine lv_aload_n hx hb dL_law_692 rfl (lv_at hl 3 rfl) ?_
  have hPc : va_P D vwCl [(o1, .inl (g 1, 1, .inr (.inl (fun _ => 0)))), ((a 0), f_x a), ((a 1), f_net a)] _ := hP.sub (ws' := [(o1, .inl (g 1, 1, .inr (.inl (fun _ => 0)))), ((a 0), f_x a), ((a 1), f_net a)]) [4, 0, 1] rfl
  have hDc : va_D (fun q => z0 ≤ q) [(o1, .inl (g 1, 1, .inr (.inl (fun _ => 0)))), ((a 0), f_x a), ((a 1), f_net a)] := (hD.to hAz).pick (ws' := [(o1, .inl (g 1, 1, .inr (.inl (fun _ => 0)))), ((a 0), f_x a), ((a 1), f_net a)]) [4, 0, 1] (by decide) rfl
  have hFc := va_free (wc := [(o1, .inl (g 1, 1, .inr (.inl (fun _ => 0)))), ((a 0), f_x a), ((a 1), f_net a)]) hD hS hA [4, 0, 1] rfl
  refine va_calli (vx_runSW (As := [.ref (a 0), .int (xs 1), .ref o1]) (rest := []) ⟨hx, hb, hml, hown, ht⟩ (k_L_testPoint l hfl D g z0 _ a (xs 1) o1) (vx_cwSW 3 ht (gS w_811 w_813 w_767 w_812) rfl rfl rfl (by decide +kernel) (le2 rfl rfl)) ⟨PP.blind, PP.mk' hK hZ hz hAz hS hPc hDc⟩ rfl rfl hl.1 rfl (lv_room (Nat.le_of_ble_eq_true rfl)) dL_law_693 (le2 rfl rfl)) hS (fun q _ h => hFc q h) hFc (fun r u t H locs ht1 hvm hw hB hz1 hk1 hS => ?_)
  obtain ⟨rfl, hw⟩ := hw
  obtain ⟨hP1, hD1⟩ := hB
  rw [ht1] at hP1
  obtain ⟨hP, hD⟩ := va_join (wr := [((a 200), f_m a g), ((a 201), .inr (5, [.int 0, .ref (g 100), .int 0]))]) (w1 := [(o1, .inl (g 1, 1, .inr (.inl (fun _ => 0))))]) hP hD [4, 0, 1] [2, 3] rfl rfl (by decide) (by decide) hk1 hFc hP1 hD1
  have hP : va_P D vwCl [((a 200), f_m a g), ((a 201), .inr (5, [.int 0, .ref (g 100), .int 0])), (o1, .inl (g 1, 1, .inr (.inl (fun _ => 0))))] H := hP
  have hD : va_D (va_A [] s.heap.size) [((a 200), f_m a g), ((a 201), .inr (5, [.int 0, .ref (g 100), .int 0])), (o1, .inl (g 1, 1, .inr (.inl (fun _ => 0))))] := hD
  refine lv_istore (lv' := [(6, .int 1), (0, .ref b), (1, .ref (a 0)), (2, .ref (a 200)), (3, .ref o1), (4, .ref o2), (5, .int 0)]) hx hb dL_law_696 hl (by decide) rfl (fun ls hl => ?_)
  refine lv_aload_n hx hb dL_law_698 rfl (lv_at hl 3 rfl) ?_
  refine lv_aload_n hx hb dL_law_699 rfl (lv_at hl 1 rfl) ?_
  refine lv_iload hx hb dL_law_700 (lv_at hl 6 rfl) ?_
  refine lv_iconst (v := 1) hx hb dL_law_702 (by decide) ?_
  refine lv_iadd hx hb dL_law_703 ?_
  refine r_topi (v := 1) (by decide) ?_
  refine va_sld hx hb hX hbl hbA hS (by unfold vp_in; decide) dL_law_704 ?_
  refine r_topi (v := xs 1) (congrArg xs (by decide)) ?_
  have hPc : va_P D vwCl [((a 200), f_m a g), ((a 201), .inr (5, [.int 0, .ref (g 100), .int 0]))] _ := hP.sub (ws' := [((a 200), f_m a g), ((a 201), .inr (5, [.int 0, .ref (g 100), .int 0]))]) [0, 1] rfl
  have hDc : va_D (fun q => z0 ≤ q) [((a 200), f_m a g), ((a 201), .inr (5, [.int 0, .ref (g 100), .int 0]))] := (hD.to hAz).pick (ws' := [((a 200), f_m a g), ((a 201), .inr (5, [.int 0, .ref (g 100), .int 0]))]) [0, 1] (by decide) rfl
  have hFc := va_free (wc := [((a 200), f_m a g), ((a 201), .inr (5, [.int 0, .ref (g 100), .int 0]))]) hD hS hA [0, 1] rfl
  refine va_calli (va_runV (As := [.int (xs 1)]) (rest := []) ⟨hx, hb, hml, hown, ht⟩ (k_X15_testPoint l D g z0 _ a (xs 1)) (cwV 1 ht (gV w_814 w_816 w_817 w_334 w_815) rfl rfl rfl (by decide +kernel) (le2 rfl rfl)) ⟨PP.blind, va_recv hK.1 hP (ci := 21) (q0 := 0) rfl rfl, PP.mk' hK hZ hz hAz hS hPc hDc⟩ rfl rfl hl.1 rfl (lv_room (Nat.le_of_ble_eq_true rfl)) dL_law_705 (le2 rfl rfl)) hS (fun q _ h => hFc q h) hFc (fun r u t H locs ht1 hvm hw hB hz1 hk1 hS => ?_)
  obtain ⟨rfl, hw⟩ := hw
  obtain ⟨hP1, hD1⟩ := hB
  rw [ht1] at hP1
  obtain ⟨hP, hD⟩ := va_join (wr := [(o1, .inl (g 1, 1, .inr (.inl (fun _ => 0))))]) (w1 := [((a 200), .inr (21, [.int 1, .ref (a 201), .ref (a 202), .ref (a 203), .ref (a 204), .ref (a 205), .ref (a 206), .int 0, .int 0, .int 0, .int 0, .ref (a 208), .ref (a 209), .ref (a 210), .ref (a 211), .ref (a 212), .int 4, .int 12, .int (-1), .int 0, .ref (g 200), .ref (a 213), .int 0, .int 97, .ref (a 214), .ref (a 215), .ref (a 207), .null, .int 0]))]) hP hD [0, 1] [2] rfl rfl (by decide) (by decide) hk1 hFc hP1 hD1
  have hP : va_P D vwCl [(o1, .inl (g 1, 1, .inr (.inl (fun _ => 0)))), ((a 200), .inr (21, [.int 1, .ref (a 201), .ref (a 202), .ref (a 203), .ref (a 204), .ref (a 205), .ref (a 206), .int 0, .int 0, .int 0, .int 0, .ref (a 208), .ref (a 209), .ref (a 210), .ref (a 211), .ref (a 212), .int 4, .int 12, .int (-1), .int 0, .ref (g 200), .ref (a 213), .int 0, .int 97, .ref (a 214), .ref (a 215), .ref (a 207), .null, .int 0]))] H := hP
  have hD : va_D (va_A [] s.heap.size) [(o1, .inl (g 1, 1, .inr (.inl (fun _ => 0)))), ((a 200), .inr (21, [.int 1, .ref (a 201), .ref (a 202), .ref (a 203), .ref (a 204), .ref (a 205), .ref (a 206), .int 0, .int 0, .int 0, .int 0, .ref (a 208), .ref (a 209), .ref (a 210), .ref (a 211), .ref (a 212), .int 4, .int 12, .int (-1), .int 0, .ref (g 200), .ref (a 213), .int 0, .int 97, .ref (a 214), .ref (a 215), .ref (a 207), .null, .int 0]))] := hD
  refine lv_istore (lv' := [(7, .int 0), (6, .int 1), (0, .ref b), (1, .ref (a 0)), (2, .ref (a 200)), (3, .ref o1), (4, .ref o2), (5, .int 0)]) hx hb dL_law_708 hl (by decide) rfl (fun ls hl => ?_)
  refine lv_aload_n hx hb dL_law_710 rfl (lv_at hl 4 rfl) ?_
  have hPc : va_P D vwCl [((a 200), .inr (21, [.int 1, .ref (a 201), .ref (a 202), .ref (a 203), .ref (a 204), .ref (a 205), .ref (a 206), .int 0, .int 0, .int 0, .int 0, .ref (a 208), .ref (a 209), .ref (a 210), .ref (a 211), .ref (a 212), .int 4, .int 12, .int (-1), .int 0, .ref (g 200), .ref (a 213), .int 0, .int 97, .ref (a 214), .ref (a 215), .ref (a 207), .null, .int 0]))] _ := hP.sub (ws' := [((a 200), .inr (21, [.int 1, .ref (a 201), .ref (a 202), .ref (a 203), .ref (a 204), .ref (a 205), .ref (a 206), .int 0, .int 0, .int 0, .int 0, .ref (a 208), .ref (a 209), .ref (a 210), .ref (a 211), .ref (a 212), .int 4, .int 12, .int (-1), .int 0, .ref (g 200), .ref (a 213), .int 0, .int 97, .ref (a 214), .ref (a 215), .ref (a 207), .null, .int 0]))]) [1] rfl
  have hDc : va_D (fun q => z0 ≤ q) [((a 200), .inr (21, [.int 1, .ref (a 201), .ref (a 202), .ref (a 203), .ref (a 204), .ref (a 205), .ref (a 206), .int 0, .int 0, .int 0, .int 0, .ref (a 208), .ref (a 209), .ref (a 210), .ref (a 211), .ref (a 212), .int 4, .int 12, .int (-1), .int 0, .ref (g 200), .ref (a 213), .int 0, .int 97, .ref (a 214), .ref (a 215), .ref (a 207), .null, .int 0]))] := (hD.to hAz).pick (ws' := [((a 200), .inr (21, [.int 1, .ref (a 201), .ref (a 202), .ref (a 203), .ref (a 204), .ref (a 205), .ref (a 206), .int 0, .int 0, .int 0, .int 0, .ref (a 208), .ref (a 209), .ref (a 210), .ref (a 211), .ref (a 212), .int 4, .int 12, .int (-1), .int 0, .ref (g 200), .ref (a 213), .int 0, .int 97, .ref (a 214), .ref (a 215), .ref (a 207), .null, .int 0]))]) [1] (by decide) rfl
  have hFc := va_free (wc := [((a 200), .inr (21, [.int 1, .ref (a 201), .ref (a 202), .ref (a 203), .ref (a 204), .ref (a 205), .ref (a 206), .int 0, .int 0, .int 0, .int 0, .ref (a 208), .ref (a 209), .ref (a 210), .ref (a 211), .ref (a 212), .int 4, .int 12, .int (-1), .int 0, .ref (g 200), .ref (a 213), .int 0, .int 97, .ref (a 214), .ref (a 215), .ref (a 207), .null, .int 0]))]) hD hS hA [1] rfl
  refine va_calli (va_runV (As := []) (rest := []) ⟨hx, hb, hml, hown, ht⟩ (k_X15_thrown_v2 l D g z0 _ a) (cwV 0 ht (gV w_772 w_774 w_775 w_334 w_773) rfl rfl rfl (by decide +kernel) (le2 rfl rfl)) ⟨PP.blind, va_recv hK.1 hP (ci := 21) (q0 := 1) rfl rfl, PP.mk' hK hZ hz hAz hS hPc hDc⟩ rfl rfl hl.1 rfl (lv_room (Nat.le_of_ble_eq_true rfl)) dL_law_711 (le2 rfl rfl)) hS (fun q _ h => hFc q h) hFc (fun r u t H locs ht1 hvm hw hB hz1 hk1 hS => ?_)
  obtain ⟨rfl, hw⟩ := hw
  obtain ⟨hP1, hD1⟩ := hB
  rw [ht1] at hP1
  obtain ⟨hP, hD⟩ := va_join (wr := [(o1, .inl (g 1, 1, .inr (.inl (fun _ => 0))))]) (w1 := [((a 200), .inr (21, [.int 1, .ref (a 201), .ref (a 202), .ref (a 203), .ref (a 204), .ref (a 205), .ref (a 206), .int 0, .int 0, .int 0, .int 0, .ref (a 208), .ref (a 209), .ref (a 210), .ref (a 211), .ref (a 212), .int 4, .int 12, .int (-1), .int 0, .ref (g 200), .ref (a 213), .int 0, .int 97, .ref (a 214), .ref (a 215), .ref (a 207), .null, .int 0]))]) hP hD [1] [0] rfl rfl (by decide) (by decide) hk1 hFc hP1 hD1
  have hP : va_P D vwCl [(o1, .inl (g 1, 1, .inr (.inl (fun _ => 0)))), ((a 200), .inr (21, [.int 1, .ref (a 201), .ref (a 202), .ref (a 203), .ref (a 204), .ref (a 205), .ref (a 206), .int 0, .int 0, .int 0, .int 0, .ref (a 208), .ref (a 209), .ref (a 210), .ref (a 211), .ref (a 212), .int 4, .int 12, .int (-1), .int 0, .ref (g 200), .ref (a 213), .int 0, .int 97, .ref (a 214), .ref (a 215), .ref (a 207), .null, .int 0]))] H := hP
  have hD : va_D (va_A [] s.heap.size) [(o1, .inl (g 1, 1, .inr (.inl (fun _ => 0)))), ((a 200), .inr (21, [.int 1, .ref (a 201), .ref (a 202), .ref (a 203), .ref (a 204), .ref (a 205), .ref (a 206), .int 0, .int 0, .int 0, .int 0, .ref (a 208), .ref (a 209), .ref (a 210), .ref (a 211), .ref (a 212), .int 4, .int 12, .int (-1), .int 0, .ref (g 200), .ref (a 213), .int 0, .int 97, .ref (a 214), .ref (a 215), .ref (a 207), .null, .int 0]))] := hD
  refine lv_iload hx hb dL_law_714 (lv_at hl 1 rfl) ?_
  refine lv_icmp_eq (tgt := 721) hx hb dL_law_716 (by decide) (fun c_1 => ?_) (fun c_1 => ?_)
  · refine lv_iload hx hb dL_law_721 (lv_at hl 1 rfl) ?_
    refine lv_if_ne (tgt := 738) hx hb dL_law_723 (by decide) (fun c_2 => ?_) (fun c_2 => ?_)
    · refine lv_goto (tgt := 4264) hx hb dL_law_738 (by decide) ?_
      refine W.widen (k := 200 + 300) (n := 8000 + 2000) (Nat.le_of_ble_eq_true rfl) (Nat.le_of_ble_eq_true rfl) ?_
      exact kk _ _ _ hS (lv_sub hl [7, 2] rfl)
    · exact absurd c_2 (by decide)
  · exact absurd c_1 (by decide)
set_option maxHeartbeats 4000000 in
set_option maxRecDepth 100000 in
theorem lw_case_7 {p : Program} {l : Launch} {e : Env} {s : State} {m : MethodId} {below : List Frame} {meth : Method} {c : Code} {H : Heap} {locs : List Loc} {ls : Array Slot} {Q : State → Prop} {D : va_G} {g : Nat → ClassId} {z0 b : Nat} {xs : Nat → Int32} {a : Nat → Nat} {o1 o2 : Nat} (hfl : l.stackTraces = false) (hx : p.tables.exec = Jvm.exec) (hb : c.code = cL_law) (hml : c.maxLocals = 9) (hown : s.vm.findClass RL = some m.cls) (ht : ∀ w ∈ TG, w.before #[Value.ref b] s = true) (hX : va_X b 6 xs s s.heap) (hbl : b < s.heap.size) (hbA : ¬ va_A [] s.heap.size b) (hK : KK D g s) (hZ : ZZ g z0 s) (hz : z0 ≤ s.heap.size) (hAz : ∀ q, va_A [] s.heap.size q → z0 ≤ q) (hP : va_P D vwCl (lwW a g o1 o2) H) (hD : va_D (va_A [] s.heap.size) (lwW a g o1 o2)) (hS : va_S (va_A [] s.heap.size) s.heap H locs) (hl : lv_has ls 9 [(0, .ref b), (1, .ref (a 0)), (2, .ref (a 200)), (3, .ref o1), (4, .ref o2), (5, .int 0)])
    (kk : ∀ (H : Heap) (locs : List Loc) (ls : Array Slot), va_S (va_A [] s.heap.size) s.heap H locs → lv_has ls 9 [(5, .int 0), (0, .ref b)] → W p l e room_1 s m #[Value.ref b] below meth c H locs (200 + 300) (8000 + 2000) Q (F0 m 4264 ls [])) :
    W p l e room_1 s m #[Value.ref b] below meth c H locs 200 8000 Q (F0 m 741 ls []) := by
  have hA : ∀ q : Nat, s.heap.size ≤ q → va_A [] s.heap.size q := Anw
  have hP := hP.sub (ws' := [((a 0), f_x a), ((a 1), f_net a), ((a 200), f_m a g), ((a 202), .inr (5, [.int 0, .ref (g 100), .int 0])), (o1, .inl (g 1, 1, .inr (.inl (fun _ => 0))))]) [0, 5, 26, 28, 61] rfl
  have hD := hD.sub (ws' := [((a 0), f_x a), ((a 1), f_net a), ((a 200), f_m a g), ((a 202), .inr (5, [.int 0, .ref (g 100), .int 0])), (o1, .inl (g 1, 1, .inr (.inl (fun _ => 0))))]) [0, 5, 26, 28, 61] (by decide) rfl
  refine lv_aload_n hx hb dL_law_741 rfl (lv_at hl 1 rfl) ?_
  refine lv_aload_n hx hb dL_law_742 rfl (lv_at hl 0 rfl) ?_
  refine lv_iload hx hb dL_law_743 (lv_at hl 5 rfl) ?_
  refine lv_iconst (v := 1) hx hb dL_law_745 (by decide) ?_
  refine lv_iadd hx hb dL_law_746 ?_
  refine r_topi (v := 1) (by decide) ?_
  refine va_sld hx hb hX hbl hbA hS (by unfold vp_in; decide) dL_law_747 ?_
  refine r_topi (v := xs 1) (congrArg xs (by decide)) ?_
  refine lv_aload_n hx hb dL_law_748 rfl (lv_at hl 0 rfl) ?_
  refine lv_iload hx hb dL_law_749 (lv_at hl 5 rfl) ?_
  refine lv_iconst (v := 2) hx hb dL_law_751 (by decide) ?_
  refine lv_iadd hx hb dL_law_752 ?_
  refine r_topi (v := 2) (by decide) ?_
  refine va_sld hx hb hX hbl hbA hS (by unfold vp_in; decide) dL_law_753 ?_
  refine r_topi (v := xs 2) (congrArg xs (by decide)) ?_
  refine lv_aload_n hx hb dL_law_754 rfl (lv_at hl 3 rfl) ?_
  have hPc : va_P D vwCl [(o1, .inl (g 1, 1, .inr (.inl (fun _ => 0)))), ((a 0), f_x a), ((a 1), f_net a)] _ := hP.sub (ws' := [(o1, .inl (g 1, 1, .inr (.inl (fun _ => 0)))), ((a 0), f_x a), ((a 1), f_net a)]) [4, 0, 1] rfl
  have hDc : va_D (fun q => z0 ≤ q) [(o1, .inl (g 1, 1, .inr (.inl (fun _ => 0)))), ((a 0), f_x a), ((a 1), f_net a)] := (hD.to hAz).pick (ws' := [(o1, .inl (g 1, 1, .inr (.inl (fun _ => 0)))), ((a 0), f_x a), ((a 1), f_net a)]) [4, 0, 1] (by decide) rfl
  have hFc := va_free (wc := [(o1, .inl (g 1, 1, .inr (.inl (fun _ => 0)))), ((a 0), f_x a), ((a 1), f_net a)]) hD hS hA [4, 0, 1] rfl
  refine va_calli (vx_runSW (As := [.ref (a 0), .int (xs 1), .int (xs 2), .ref o1]) (rest := []) ⟨hx, hb, hml, hown, ht⟩ (k_L_pattern l hfl D g z0 _ a (xs 1) (xs 2) o1) (vx_cwSW 4 ht (gS w_818 w_820 w_767 w_819) rfl rfl rfl (by decide +kernel) (le2 rfl rfl)) ⟨PP.blind, PP.mk' hK hZ hz hAz hS hPc hDc⟩ rfl rfl hl.1 rfl (lv_room (Nat.le_of_ble_eq_true rfl)) dL_law_755 (le2 rfl rfl)) hS (fun q _ h => hFc q h) hFc (fun r u t H locs ht1 hvm hw hB hz1 hk1 hS => ?_)
  rcases hw with hw | hw
  · obtain ⟨rfl, hw⟩ := hw
    rcases hw with hw | hw
    · have c_1 := hw
      obtain ⟨hP1, hD1⟩ := hB
      rw [ht1] at hP1
      obtain ⟨hP, hD⟩ := va_join (wr := [((a 200), f_m a g), ((a 202), .inr (5, [.int 0, .ref (g 100), .int 0]))]) (w1 := [(o1, .inl (g 1, 1, .inr (.inl (fun _ => 0))))]) hP hD [4, 0, 1] [2, 3] rfl rfl (by decide) (by decide) hk1 hFc hP1 hD1
      have hP : va_P D vwCl [((a 200), f_m a g), ((a 202), .inr (5, [.int 0, .ref (g 100), .int 0])), (o1, .inl (g 1, 1, .inr (.inl (fun _ => 0))))] H := hP
      have hD : va_D (va_A [] s.heap.size) [((a 200), f_m a g), ((a 202), .inr (5, [.int 0, .ref (g 100), .int 0])), (o1, .inl (g 1, 1, .inr (.inl (fun _ => 0))))] := hD
      refine lv_istore (lv' := [(6, .int 1), (0, .ref b), (1, .ref (a 0)), (2, .ref (a 200)), (3, .ref o1), (4, .ref o2), (5, .int 0)]) hx hb dL_law_758 hl (by decide) rfl (fun ls hl => ?_)
      refine lv_aload_n hx hb dL_law_760 rfl (lv_at hl 3 rfl) ?_
      refine lv_aload_n hx hb dL_law_761 rfl (lv_at hl 1 rfl) ?_
      refine lv_iload hx hb dL_law_762 (lv_at hl 6 rfl) ?_
      refine lv_iconst (v := 1) hx hb dL_law_764 (by decide) ?_
      refine lv_iadd hx hb dL_law_765 ?_
      refine r_topi (v := 1) (by decide) ?_
      refine va_sld hx hb hX hbl hbA hS (by unfold vp_in; decide) dL_law_766 ?_
      refine r_topi (v := xs 1) (congrArg xs (by decide)) ?_
      refine lv_aload_n hx hb dL_law_767 rfl (lv_at hl 1 rfl) ?_
      refine lv_iload hx hb dL_law_768 (lv_at hl 6 rfl) ?_
      refine lv_iconst (v := 2) hx hb dL_law_770 (by decide) ?_
      refine lv_iadd hx hb dL_law_771 ?_
      refine r_topi (v := 2) (by decide) ?_
      refine va_sld hx hb hX hbl hbA hS (by unfold vp_in; decide) dL_law_772 ?_
      refine r_topi (v := xs 2) (congrArg xs (by decide)) ?_
      have hPc : va_P D vwCl [((a 200), f_m a g), ((a 202), .inr (5, [.int 0, .ref (g 100), .int 0]))] _ := hP.sub (ws' := [((a 200), f_m a g), ((a 202), .inr (5, [.int 0, .ref (g 100), .int 0]))]) [0, 1] rfl
      have hDc : va_D (fun q => z0 ≤ q) [((a 200), f_m a g), ((a 202), .inr (5, [.int 0, .ref (g 100), .int 0]))] := (hD.to hAz).pick (ws' := [((a 200), f_m a g), ((a 202), .inr (5, [.int 0, .ref (g 100), .int 0]))]) [0, 1] (by decide) rfl
      have hFc := va_free (wc := [((a 200), f_m a g), ((a 202), .inr (5, [.int 0, .ref (g 100), .int 0]))]) hD hS hA [0, 1] rfl
      refine va_calli (va_runV (As := [.int (xs 1), .int (xs 2)]) (rest := []) ⟨hx, hb, hml, hown, ht⟩ (k_X15_pattern l D g z0 _ a (xs 1) (xs 2)) (cwV 2 ht (gV w_821 w_823 w_824 w_334 w_822) rfl rfl rfl (by decide +kernel) (le2 rfl rfl)) ⟨PP.blind, va_recv hK.1 hP (ci := 21) (q0 := 0) rfl rfl, PP.mk' hK hZ hz hAz hS hPc hDc⟩ rfl rfl hl.1 rfl (lv_room (Nat.le_of_ble_eq_true rfl)) dL_law_773 (le2 rfl rfl)) hS (fun q _ h => hFc q h) hFc (fun r u t H locs ht1 hvm hw hB hz1 hk1 hS => ?_)
      rcases hw with hw | hw
      · obtain ⟨rfl, rfl, hw⟩ := hw
        rcases hw with hw | hw | hw | hw | hw
        · have c_2 := hw
          obtain ⟨hP1, hD1⟩ := hB
          rw [ht1] at hP1
          obtain ⟨hP, hD⟩ := va_join (wr := [(o1, .inl (g 1, 1, .inr (.inl (fun _ => 0))))]) (w1 := [((a 200), .inr (21, [.int 1, .ref (a 201), .ref (a 202), .ref (a 203), .ref (a 204), .ref (a 205), .ref (a 206), .int 0, .int 0, .int 0, .int 0, .ref (a 208), .ref (a 209), .ref (a 210), .ref (a 211), .ref (a 212), .int 4, .int 12, .int (-1), .int 0, .ref (g 200), .ref (a 213), .int 0, .int 97, .ref (a 214), .ref (a 215), .ref (a 207), .null, .int 0]))]) hP hD [0, 1] [2] rfl rfl (by decide) (by decide) hk1 hFc hP1 hD1
          have hP : va_P D vwCl [(o1, .inl (g 1, 1, .inr (.inl (fun _ => 0)))), ((a 200), .inr (21, [.int 1, .ref (a 201), .ref (a 202), .ref (a 203), .ref (a 204), .ref (a 205), .ref (a 206), .int 0, .int 0, .int 0, .int 0, .ref (a 208), .ref (a 209), .ref (a 210), .ref (a 211), .ref (a 212), .int 4, .int 12, .int (-1), .int 0, .ref (g 200), .ref (a 213), .int 0, .int 97, .ref (a 214), .ref (a 215), .ref (a 207), .null, .int 0]))] H := hP
          have hD : va_D (va_A [] s.heap.size) [(o1, .inl (g 1, 1, .inr (.inl (fun _ => 0)))), ((a 200), .inr (21, [.int 1, .ref (a 201), .ref (a 202), .ref (a 203), .ref (a 204), .ref (a 205), .ref (a 206), .int 0, .int 0, .int 0, .int 0, .ref (a 208), .ref (a 209), .ref (a 210), .ref (a 211), .ref (a 212), .int 4, .int 12, .int (-1), .int 0, .ref (g 200), .ref (a 213), .int 0, .int 97, .ref (a 214), .ref (a 215), .ref (a 207), .null, .int 0]))] := hD
          refine lv_istore (lv' := [(7, .int 0), (6, .int 1), (0, .ref b), (1, .ref (a 0)), (2, .ref (a 200)), (3, .ref o1), (4, .ref o2), (5, .int 0)]) hx hb dL_law_776 hl (by decide) rfl (fun ls hl => ?_)
          refine lv_aload_n hx hb dL_law_778 rfl (lv_at hl 4 rfl) ?_
          have hPc : va_P D vwCl [((a 200), .inr (21, [.int 1, .ref (a 201), .ref (a 202), .ref (a 203), .ref (a 204), .ref (a 205), .ref (a 206), .int 0, .int 0, .int 0, .int 0, .ref (a 208), .ref (a 209), .ref (a 210), .ref (a 211), .ref (a 212), .int 4, .int 12, .int (-1), .int 0, .ref (g 200), .ref (a 213), .int 0, .int 97, .ref (a 214), .ref (a 215), .ref (a 207), .null, .int 0]))] _ := hP.sub (ws' := [((a 200), .inr (21, [.int 1, .ref (a 201), .ref (a 202), .ref (a 203), .ref (a 204), .ref (a 205), .ref (a 206), .int 0, .int 0, .int 0, .int 0, .ref (a 208), .ref (a 209), .ref (a 210), .ref (a 211), .ref (a 212), .int 4, .int 12, .int (-1), .int 0, .ref (g 200), .ref (a 213), .int 0, .int 97, .ref (a 214), .ref (a 215), .ref (a 207), .null, .int 0]))]) [1] rfl
          have hDc : va_D (fun q => z0 ≤ q) [((a 200), .inr (21, [.int 1, .ref (a 201), .ref (a 202), .ref (a 203), .ref (a 204), .ref (a 205), .ref (a 206), .int 0, .int 0, .int 0, .int 0, .ref (a 208), .ref (a 209), .ref (a 210), .ref (a 211), .ref (a 212), .int 4, .int 12, .int (-1), .int 0, .ref (g 200), .ref (a 213), .int 0, .int 97, .ref (a 214), .ref (a 215), .ref (a 207), .null, .int 0]))] := (hD.to hAz).pick (ws' := [((a 200), .inr (21, [.int 1, .ref (a 201), .ref (a 202), .ref (a 203), .ref (a 204), .ref (a 205), .ref (a 206), .int 0, .int 0, .int 0, .int 0, .ref (a 208), .ref (a 209), .ref (a 210), .ref (a 211), .ref (a 212), .int 4, .int 12, .int (-1), .int 0, .ref (g 200), .ref (a 213), .int 0, .int 97, .ref (a 214), .ref (a 215), .ref (a 207), .null, .int 0]))]) [1] (by decide) rfl
          have hFc := va_free (wc := [((a 200), .inr (21, [.int 1, .ref (a 201), .ref (a 202), .ref (a 203), .ref (a 204), .ref (a 205), .ref (a 206), .int 0, .int 0, .int 0, .int 0, .ref (a 208), .ref (a 209), .ref (a 210), .ref (a 211), .ref (a 212), .int 4, .int 12, .int (-1), .int 0, .ref (g 200), .ref (a 213), .int 0, .int 97, .ref (a 214), .ref (a 215), .ref (a 207), .null, .int 0]))]) hD hS hA [1] rfl
          refine va_calli (va_runV (As := []) (rest := []) ⟨hx, hb, hml, hown, ht⟩ (k_X15_thrown_v2 l D g z0 _ a) (cwV 0 ht (gV w_772 w_774 w_775 w_334 w_773) rfl rfl rfl (by decide +kernel) (le2 rfl rfl)) ⟨PP.blind, va_recv hK.1 hP (ci := 21) (q0 := 1) rfl rfl, PP.mk' hK hZ hz hAz hS hPc hDc⟩ rfl rfl hl.1 rfl (lv_room (Nat.le_of_ble_eq_true rfl)) dL_law_779 (le2 rfl rfl)) hS (fun q _ h => hFc q h) hFc (fun r u t H locs ht1 hvm hw hB hz1 hk1 hS => ?_)
          obtain ⟨rfl, hw⟩ := hw
          obtain ⟨hP1, hD1⟩ := hB
          rw [ht1] at hP1
          obtain ⟨hP, hD⟩ := va_join (wr := [(o1, .inl (g 1, 1, .inr (.inl (fun _ => 0))))]) (w1 := [((a 200), .inr (21, [.int 1, .ref (a 201), .ref (a 202), .ref (a 203), .ref (a 204), .ref (a 205), .ref (a 206), .int 0, .int 0, .int 0, .int 0, .ref (a 208), .ref (a 209), .ref (a 210), .ref (a 211), .ref (a 212), .int 4, .int 12, .int (-1), .int 0, .ref (g 200), .ref (a 213), .int 0, .int 97, .ref (a 214), .ref (a 215), .ref (a 207), .null, .int 0]))]) hP hD [1] [0] rfl rfl (by decide) (by decide) hk1 hFc hP1 hD1
          have hP : va_P D vwCl [(o1, .inl (g 1, 1, .inr (.inl (fun _ => 0)))), ((a 200), .inr (21, [.int 1, .ref (a 201), .ref (a 202), .ref (a 203), .ref (a 204), .ref (a 205), .ref (a 206), .int 0, .int 0, .int 0, .int 0, .ref (a 208), .ref (a 209), .ref (a 210), .ref (a 211), .ref (a 212), .int 4, .int 12, .int (-1), .int 0, .ref (g 200), .ref (a 213), .int 0, .int 97, .ref (a 214), .ref (a 215), .ref (a 207), .null, .int 0]))] H := hP
          have hD : va_D (va_A [] s.heap.size) [(o1, .inl (g 1, 1, .inr (.inl (fun _ => 0)))), ((a 200), .inr (21, [.int 1, .ref (a 201), .ref (a 202), .ref (a 203), .ref (a 204), .ref (a 205), .ref (a 206), .int 0, .int 0, .int 0, .int 0, .ref (a 208), .ref (a 209), .ref (a 210), .ref (a 211), .ref (a 212), .int 4, .int 12, .int (-1), .int 0, .ref (g 200), .ref (a 213), .int 0, .int 97, .ref (a 214), .ref (a 215), .ref (a 207), .null, .int 0]))] := hD
          refine lv_iload hx hb dL_law_782 (lv_at hl 1 rfl) ?_
          refine lv_icmp_eq (tgt := 789) hx hb dL_law_784 (by decide) (fun c_3 => ?_) (fun c_3 => ?_)
          · refine lv_iload hx hb dL_law_789 (lv_at hl 1 rfl) ?_
            refine lv_if_ne (tgt := 806) hx hb dL_law_791 (by decide) (fun c_4 => ?_) (fun c_4 => ?_)
            · refine lv_goto (tgt := 4264) hx hb dL_law_806 (by decide) ?_
              refine W.widen (k := 200 + 300) (n := 8000 + 2000) (Nat.le_of_ble_eq_true rfl) (Nat.le_of_ble_eq_true rfl) ?_
              exact kk _ _ _ hS (lv_sub hl [7, 2] rfl)
            · exact absurd c_4 (by decide)
          · exact absurd c_3 (by decide)
        · obtain ⟨c_5, c_6⟩ := hw
          obtain ⟨hP1, hD1⟩ := hB
          rw [ht1] at hP1
          obtain ⟨hP, hD⟩ := va_join (wr := [(o1, .inl (g 1, 1, .inr (.inl (fun _ => 0))))]) (w1 := [((a 200), .inr (21, [.int 1, .ref (a 201), .ref (a 202), .ref (a 203), .ref (a 204), .ref (a 205), .ref (a 206), .int 0, .int 0, .int 0, .int 0, .ref (a 208), .ref (a 209), .ref (a 210), .ref (a 211), .ref (a 212), .int 4, .int 12, .int (-1), .int 0, .ref (g 200), .ref (a 213), .int 0, .int 97, .ref (a 214), .ref (a 215), .ref (a 207), .null, .int 0]))]) hP hD [0, 1] [2] rfl rfl (by decide) (by decide) hk1 hFc hP1 hD1
          have hP : va_P D vwCl [(o1, .inl (g 1, 1, .inr (.inl (fun _ => 0)))), ((a 200), .inr (21, [.int 1, .ref (a 201), .ref (a 202), .ref (a 203), .ref (a 204), .ref (a 205), .ref (a 206), .int 0, .int 0, .int 0, .int 0, .ref (a 208), .ref (a 209), .ref (a 210), .ref (a 211), .ref (a 212), .int 4, .int 12, .int (-1), .int 0, .ref (g 200), .ref (a 213), .int 0, .int 97, .ref (a 214), .ref (a 215), .ref (a 207), .null, .int 0]))] H := hP
          have hD : va_D (va_A [] s.heap.size) [(o1, .inl (g 1, 1, .inr (.inl (fun _ => 0)))), ((a 200), .inr (21, [.int 1, .ref (a 201), .ref (a 202), .ref (a 203), .ref (a 204), .ref (a 205), .ref (a 206), .int 0, .int 0, .int 0, .int 0, .ref (a 208), .ref (a 209), .ref (a 210), .ref (a 211), .ref (a 212), .int 4, .int 12, .int (-1), .int 0, .ref (g 200), .ref (a 213), .int 0, .int 97, .ref (a 214), .ref (a 215), .ref (a 207), .null, .int 0]))] := hD
          refine lv_istore (lv' := [(7, .int 0), (6, .int 1), (0, .ref b), (1, .ref (a 0)), (2, .ref (a 200)), (3, .ref o1), (4, .ref o2), (5, .int 0)]) hx hb dL_law_776 hl (by decide) rfl (fun ls hl => ?_)
          refine lv_aload_n hx hb dL_law_778 rfl (lv_at hl 4 rfl) ?_
          have hPc : va_P D vwCl [((a 200), .inr (21, [.int 1, .ref (a 201), .ref (a 202), .ref (a 203), .ref (a 204), .ref (a 205), .ref (a 206), .int 0, .int 0, .int 0, .int 0, .ref (a 208), .ref (a 209), .ref (a 210), .ref (a 211), .ref (a 212), .int 4, .int 12, .int (-1), .int 0, .ref (g 200), .ref (a 213), .int 0, .int 97, .ref (a 214), .ref (a 215), .ref (a 207), .null, .int 0]))] _ := hP.sub (ws' := [((a 200), .inr (21, [.int 1, .ref (a 201), .ref (a 202), .ref (a 203), .ref (a 204), .ref (a 205), .ref (a 206), .int 0, .int 0, .int 0, .int 0, .ref (a 208), .ref (a 209), .ref (a 210), .ref (a 211), .ref (a 212), .int 4, .int 12, .int (-1), .int 0, .ref (g 200), .ref (a 213), .int 0, .int 97, .ref (a 214), .ref (a 215), .ref (a 207), .null, .int 0]))]) [1] rfl
          have hDc : va_D (fun q => z0 ≤ q) [((a 200), .inr (21, [.int 1, .ref (a 201), .ref (a 202), .ref (a 203), .ref (a 204), .ref (a 205), .ref (a 206), .int 0, .int 0, .int 0, .int 0, .ref (a 208), .ref (a 209), .ref (a 210), .ref (a 211), .ref (a 212), .int 4, .int 12, .int (-1), .int 0, .ref (g 200), .ref (a 213), .int 0, .int 97, .ref (a 214), .ref (a 215), .ref (a 207), .null, .int 0]))] := (hD.to hAz).pick (ws' := [((a 200), .inr (21, [.int 1, .ref (a 201), .ref (a 202), .ref (a 203), .ref (a 204), .ref (a 205), .ref (a 206), .int 0, .int 0, .int 0, .int 0, .ref (a 208), .ref (a 209), .ref (a 210), .ref (a 211), .ref (a 212), .int 4, .int 12, .int (-1), .int 0, .ref (g 200), .ref (a 213), .int 0, .int 97, .ref (a 214), .ref (a 215), .ref (a 207), .null, .int 0]))]) [1] (by decide) rfl
          have hFc := va_free (wc := [((a 200), .inr (21, [.int 1, .ref (a 201), .ref (a 202), .ref (a 203), .ref (a 204), .ref (a 205), .ref (a 206), .int 0, .int 0, .int 0, .int 0, .ref (a 208), .ref (a 209), .ref (a 210), .ref (a 211), .ref (a 212), .int 4, .int 12, .int (-1), .int 0, .ref (g 200), .ref (a 213), .int 0, .int 97, .ref (a 214), .ref (a 215), .ref (a 207), .null, .int 0]))]) hD hS hA [1] rfl
          refine va_calli (va_runV (As := []) (rest := []) ⟨hx, hb, hml, hown, ht⟩ (k_X15_thrown_v2 l D g z0 _ a) (cwV 0 ht (gV w_772 w_774 w_775 w_334 w_773) rfl rfl rfl (by decide +kernel) (le2 rfl rfl)) ⟨PP.blind, va_recv hK.1 hP (ci := 21) (q0 := 1) rfl rfl, PP.mk' hK hZ hz hAz hS hPc hDc⟩ rfl rfl hl.1 rfl (lv_room (Nat.le_of_ble_eq_true rfl)) dL_law_779 (le2 rfl rfl)) hS (fun q _ h => hFc q h) hFc (fun r u t H locs ht1 hvm hw hB hz1 hk1 hS => ?_)
          obtain ⟨rfl, hw⟩ := hw
          obtain ⟨hP1, hD1⟩ := hB
          rw [ht1] at hP1
          obtain ⟨hP, hD⟩ := va_join (wr := [(o1, .inl (g 1, 1, .inr (.inl (fun _ => 0))))]) (w1 := [((a 200), .inr (21, [.int 1, .ref (a 201), .ref (a 202), .ref (a 203), .ref (a 204), .ref (a 205), .ref (a 206), .int 0, .int 0, .int 0, .int 0, .ref (a 208), .ref (a 209), .ref (a 210), .ref (a 211), .ref (a 212), .int 4, .int 12, .int (-1), .int 0, .ref (g 200), .ref (a 213), .int 0, .int 97, .ref (a 214), .ref (a 215), .ref (a 207), .null, .int 0]))]) hP hD [1] [0] rfl rfl (by decide) (by decide) hk1 hFc hP1 hD1
          have hP : va_P D vwCl [(o1, .inl (g 1, 1, .inr (.inl (fun _ => 0)))), ((a 200), .inr (21, [.int 1, .ref (a 201), .ref (a 202), .ref (a 203), .ref (a 204), .ref (a 205), .ref (a 206), .int 0, .int 0, .int 0, .int 0, .ref (a 208), .ref (a 209), .ref (a 210), .ref (a 211), .ref (a 212), .int 4, .int 12, .int (-1), .int 0, .ref (g 200), .ref (a 213), .int 0, .int 97, .ref (a 214), .ref (a 215), .ref (a 207), .null, .int 0]))] H := hP
          have hD : va_D (va_A [] s.heap.size) [(o1, .inl (g 1, 1, .inr (.inl (fun _ => 0)))), ((a 200), .inr (21, [.int 1, .ref (a 201), .ref (a 202), .ref (a 203), .ref (a 204), .ref (a 205), .ref (a 206), .int 0, .int 0, .int 0, .int 0, .ref (a 208), .ref (a 209), .ref (a 210), .ref (a 211), .ref (a 212), .int 4, .int 12, .int (-1), .int 0, .ref (g 200), .ref (a 213), .int 0, .int 97, .ref (a 214), .ref (a 215), .ref (a 207), .null, .int 0]))] := hD
          refine lv_iload hx hb dL_law_782 (lv_at hl 1 rfl) ?_
          refine lv_icmp_eq (tgt := 789) hx hb dL_law_784 (by decide) (fun c_7 => ?_) (fun c_7 => ?_)
          · refine lv_iload hx hb dL_law_789 (lv_at hl 1 rfl) ?_
            refine lv_if_ne (tgt := 806) hx hb dL_law_791 (by decide) (fun c_8 => ?_) (fun c_8 => ?_)
            · refine lv_goto (tgt := 4264) hx hb dL_law_806 (by decide) ?_
              refine W.widen (k := 200 + 300) (n := 8000 + 2000) (Nat.le_of_ble_eq_true rfl) (Nat.le_of_ble_eq_true rfl) ?_
              exact kk _ _ _ hS (lv_sub hl [7, 2] rfl)
            · exact absurd c_8 (by decide)
          · exact absurd c_7 (by decide)
        · obtain ⟨c_9, c_10, c_11⟩ := hw
          exact absurd (eq_lu (k := 0) (lo_nlt c_9) (up_nlt c_10)) c_1
        · obtain ⟨c_12, c_13, c_14, c_15⟩ := hw
          exact absurd (eq_lu (k := 0) (lo_nlt c_12) (up_nlt c_13)) c_1
        · obtain ⟨c_16, c_17, c_18, c_19, c_20⟩ := hw
          exact absurd (eq_lu (k := 0) (lo_nlt c_16) (up_nlt c_17)) c_1
      · obtain ⟨rfl, rfl, hw⟩ := hw
        obtain ⟨c_21, c_22, c_23, c_24, c_25⟩ := hw
        exact absurd (eq_lu (k := 0) (lo_nlt c_21) (up_nlt c_22)) c_1
    · obtain ⟨c_26, c_27⟩ := hw
      obtain ⟨hP1, hD1⟩ := hB
      rw [ht1] at hP1
      obtain ⟨hP, hD⟩ := va_join (wr := [((a 200), f_m a g), ((a 202), .inr (5, [.int 0, .ref (g 100), .int 0]))]) (w1 := [(o1, .inl (g 1, 1, .inr (.inl (fun _ => 0))))]) hP hD [4, 0, 1] [2, 3] rfl rfl (by decide) (by decide) hk1 hFc hP1 hD1
      have hP : va_P D vwCl [((a 200), f_m a g), ((a 202), .inr (5, [.int 0, .ref (g 100), .int 0])), (o1, .inl (g 1, 1, .inr (.inl (fun _ => 0))))] H := hP
      have hD : va_D (va_A [] s.heap.size) [((a 200), f_m a g), ((a 202), .inr (5, [.int 0, .ref (g 100), .int 0])), (o1, .inl (g 1, 1, .inr (.inl (fun _ => 0))))] := hD
      refine lv_istore (lv' := [(6, .int 1), (0, .ref b), (1, .ref (a 0)), (2, .ref (a 200)), (3, .ref o1), (4, .ref o2), (5, .int 0)]) hx hb dL_law_758 hl (by decide) rfl (fun ls hl => ?_)
      refine lv_aload_n hx hb dL_law_760 rfl (lv_at hl 3 rfl) ?_
      refine lv_aload_n hx hb dL_law_761 rfl (lv_at hl 1 rfl) ?_
      refine lv_iload hx hb dL_law_762 (lv_at hl 6 rfl) ?_
      refine lv_iconst (v := 1) hx hb dL_law_764 (by decide) ?_
      refine lv_iadd hx hb dL_law_765 ?_
      refine r_topi (v := 1) (by decide) ?_
      refine va_sld hx hb hX hbl hbA hS (by unfold vp_in; decide) dL_law_766 ?_
      refine r_topi (v := xs 1) (congrArg xs (by decide)) ?_
      refine lv_aload_n hx hb dL_law_767 rfl (lv_at hl 1 rfl) ?_
      refine lv_iload hx hb dL_law_768 (lv_at hl 6 rfl) ?_
      refine lv_iconst (v := 2) hx hb dL_law_770 (by decide) ?_
      refine lv_iadd hx hb dL_law_771 ?_
      refine r_topi (v := 2) (by decide) ?_
      refine va_sld hx hb hX hbl hbA hS (by unfold vp_in; decide) dL_law_772 ?_
      refine r_topi (v := xs 2) (congrArg xs (by decide)) ?_
      have hPc : va_P D vwCl [((a 200), f_m a g), ((a 202), .inr (5, [.int 0, .ref (g 100), .int 0]))] _ := hP.sub (ws' := [((a 200), f_m a g), ((a 202), .inr (5, [.int 0, .ref (g 100), .int 0]))]) [0, 1] rfl
      have hDc : va_D (fun q => z0 ≤ q) [((a 200), f_m a g), ((a 202), .inr (5, [.int 0, .ref (g 100), .int 0]))] := (hD.to hAz).pick (ws' := [((a 200), f_m a g), ((a 202), .inr (5, [.int 0, .ref (g 100), .int 0]))]) [0, 1] (by decide) rfl
      have hFc := va_free (wc := [((a 200), f_m a g), ((a 202), .inr (5, [.int 0, .ref (g 100), .int 0]))]) hD hS hA [0, 1] rfl
      refine va_calli (va_runV (As := [.int (xs 1), .int (xs 2)]) (rest := []) ⟨hx, hb, hml, hown, ht⟩ (k_X15_pattern l D g z0 _ a (xs 1) (xs 2)) (cwV 2 ht (gV w_821 w_823 w_824 w_334 w_822) rfl rfl rfl (by decide +kernel) (le2 rfl rfl)) ⟨PP.blind, va_recv hK.1 hP (ci := 21) (q0 := 0) rfl rfl, PP.mk' hK hZ hz hAz hS hPc hDc⟩ rfl rfl hl.1 rfl (lv_room (Nat.le_of_ble_eq_true rfl)) dL_law_773 (le2 rfl rfl)) hS (fun q _ h => hFc q h) hFc (fun r u t H locs ht1 hvm hw hB hz1 hk1 hS => ?_)
      rcases hw with hw | hw
      · obtain ⟨rfl, rfl, hw⟩ := hw
        rcases hw with hw | hw | hw | hw | hw
        · have c_28 := hw
          exact absurd (c_26 ▸ c_28) (by decide)
        · obtain ⟨c_29, c_30⟩ := hw
          exact absurd (c_26 ▸ c_30) (by decide)
        · obtain ⟨c_31, c_32, c_33⟩ := hw
          obtain ⟨hP1, hD1⟩ := hB
          rw [ht1] at hP1
          obtain ⟨hP, hD⟩ := va_join (wr := [(o1, .inl (g 1, 1, .inr (.inl (fun _ => 0))))]) (w1 := [((a 200), .inr (21, [.int 1, .ref (a 201), .ref (a 202), .ref (a 203), .ref (a 204), .ref (a 205), .ref (a 206), .int 0, .int 0, .int 0, .int 0, .ref (a 208), .ref (a 209), .ref (a 210), .ref (a 211), .ref (a 212), .int 4, .int 12, .int (-1), .int 0, .ref (g 200), .ref (a 213), .int 0, .int 97, .ref (a 214), .ref (a 215), .ref (a 207), .null, .int 0]))]) hP hD [0, 1] [2] rfl rfl (by decide) (by decide) hk1 hFc hP1 hD1
          have hP : va_P D vwCl [(o1, .inl (g 1, 1, .inr (.inl (fun _ => 0)))), ((a 200), .inr (21, [.int 1, .ref (a 201), .ref (a 202), .ref (a 203), .ref (a 204), .ref (a 205), .ref (a 206), .int 0, .int 0, .int 0, .int 0, .ref (a 208), .ref (a 209), .ref (a 210), .ref (a 211), .ref (a 212), .int 4, .int 12, .int (-1), .int 0, .ref (g 200), .ref (a 213), .int 0, .int 97, .ref (a 214), .ref (a 215), .ref (a 207), .null, .int 0]))] H := hP
          have hD : va_D (va_A [] s.heap.size) [(o1, .inl (g 1, 1, .inr (.inl (fun _ => 0)))), ((a 200), .inr (21, [.int 1, .ref (a 201), .ref (a 202), .ref (a 203), .ref (a 204), .ref (a 205), .ref (a 206), .int 0, .int 0, .int 0, .int 0, .ref (a 208), .ref (a 209), .ref (a 210), .ref (a 211), .ref (a 212), .int 4, .int 12, .int (-1), .int 0, .ref (g 200), .ref (a 213), .int 0, .int 97, .ref (a 214), .ref (a 215), .ref (a 207), .null, .int 0]))] := hD
          refine lv_istore (lv' := [(7, .int 0), (6, .int 1), (0, .ref b), (1, .ref (a 0)), (2, .ref (a 200)), (3, .ref o1), (4, .ref o2), (5, .int 0)]) hx hb dL_law_776 hl (by decide) rfl (fun ls hl => ?_)
          refine lv_aload_n hx hb dL_law_778 rfl (lv_at hl 4 rfl) ?_
          have hPc : va_P D vwCl [((a 200), .inr (21, [.int 1, .ref (a 201), .ref (a 202), .ref (a 203), .ref (a 204), .ref (a 205), .ref (a 206), .int 0, .int 0, .int 0, .int 0, .ref (a 208), .ref (a 209), .ref (a 210), .ref (a 211), .ref (a 212), .int 4, .int 12, .int (-1), .int 0, .ref (g 200), .ref (a 213), .int 0, .int 97, .ref (a 214), .ref (a 215), .ref (a 207), .null, .int 0]))] _ := hP.sub (ws' := [((a 200), .inr (21, [.int 1, .ref (a 201), .ref (a 202), .ref (a 203), .ref (a 204), .ref (a 205), .ref (a 206), .int 0, .int 0, .int 0, .int 0, .ref (a 208), .ref (a 209), .ref (a 210), .ref (a 211), .ref (a 212), .int 4, .int 12, .int (-1), .int 0, .ref (g 200), .ref (a 213), .int 0, .int 97, .ref (a 214), .ref (a 215), .ref (a 207), .null, .int 0]))]) [1] rfl
          have hDc : va_D (fun q => z0 ≤ q) [((a 200), .inr (21, [.int 1, .ref (a 201), .ref (a 202), .ref (a 203), .ref (a 204), .ref (a 205), .ref (a 206), .int 0, .int 0, .int 0, .int 0, .ref (a 208), .ref (a 209), .ref (a 210), .ref (a 211), .ref (a 212), .int 4, .int 12, .int (-1), .int 0, .ref (g 200), .ref (a 213), .int 0, .int 97, .ref (a 214), .ref (a 215), .ref (a 207), .null, .int 0]))] := (hD.to hAz).pick (ws' := [((a 200), .inr (21, [.int 1, .ref (a 201), .ref (a 202), .ref (a 203), .ref (a 204), .ref (a 205), .ref (a 206), .int 0, .int 0, .int 0, .int 0, .ref (a 208), .ref (a 209), .ref (a 210), .ref (a 211), .ref (a 212), .int 4, .int 12, .int (-1), .int 0, .ref (g 200), .ref (a 213), .int 0, .int 97, .ref (a 214), .ref (a 215), .ref (a 207), .null, .int 0]))]) [1] (by decide) rfl
          have hFc := va_free (wc := [((a 200), .inr (21, [.int 1, .ref (a 201), .ref (a 202), .ref (a 203), .ref (a 204), .ref (a 205), .ref (a 206), .int 0, .int 0, .int 0, .int 0, .ref (a 208), .ref (a 209), .ref (a 210), .ref (a 211), .ref (a 212), .int 4, .int 12, .int (-1), .int 0, .ref (g 200), .ref (a 213), .int 0, .int 97, .ref (a 214), .ref (a 215), .ref (a 207), .null, .int 0]))]) hD hS hA [1] rfl
          refine va_calli (va_runV (As := []) (rest := []) ⟨hx, hb, hml, hown, ht⟩ (k_X15_thrown_v2 l D g z0 _ a) (cwV 0 ht (gV w_772 w_774 w_775 w_334 w_773) rfl rfl rfl (by decide +kernel) (le2 rfl rfl)) ⟨PP.blind, va_recv hK.1 hP (ci := 21) (q0 := 1) rfl rfl, PP.mk' hK hZ hz hAz hS hPc hDc⟩ rfl rfl hl.1 rfl (lv_room (Nat.le_of_ble_eq_true rfl)) dL_law_779 (le2 rfl rfl)) hS (fun q _ h => hFc q h) hFc (fun r u t H locs ht1 hvm hw hB hz1 hk1 hS => ?_)
          obtain ⟨rfl, hw⟩ := hw
          obtain ⟨hP1, hD1⟩ := hB
          rw [ht1] at hP1
          obtain ⟨hP, hD⟩ := va_join (wr := [(o1, .inl (g 1, 1, .inr (.inl (fun _ => 0))))]) (w1 := [((a 200), .inr (21, [.int 1, .ref (a 201), .ref (a 202), .ref (a 203), .ref (a 204), .ref (a 205), .ref (a 206), .int 0, .int 0, .int 0, .int 0, .ref (a 208), .ref (a 209), .ref (a 210), .ref (a 211), .ref (a 212), .int 4, .int 12, .int (-1), .int 0, .ref (g 200), .ref (a 213), .int 0, .int 97, .ref (a 214), .ref (a 215), .ref (a 207), .null, .int 0]))]) hP hD [1] [0] rfl rfl (by decide) (by decide) hk1 hFc hP1 hD1
          have hP : va_P D vwCl [(o1, .inl (g 1, 1, .inr (.inl (fun _ => 0)))), ((a 200), .inr (21, [.int 1, .ref (a 201), .ref (a 202), .ref (a 203), .ref (a 204), .ref (a 205), .ref (a 206), .int 0, .int 0, .int 0, .int 0, .ref (a 208), .ref (a 209), .ref (a 210), .ref (a 211), .ref (a 212), .int 4, .int 12, .int (-1), .int 0, .ref (g 200), .ref (a 213), .int 0, .int 97, .ref (a 214), .ref (a 215), .ref (a 207), .null, .int 0]))] H := hP
          have hD : va_D (va_A [] s.heap.size) [(o1, .inl (g 1, 1, .inr (.inl (fun _ => 0)))), ((a 200), .inr (21, [.int 1, .ref (a 201), .ref (a 202), .ref (a 203), .ref (a 204), .ref (a 205), .ref (a 206), .int 0, .int 0, .int 0, .int 0, .ref (a 208), .ref (a 209), .ref (a 210), .ref (a 211), .ref (a 212), .int 4, .int 12, .int (-1), .int 0, .ref (g 200), .ref (a 213), .int 0, .int 97, .ref (a 214), .ref (a 215), .ref (a 207), .null, .int 0]))] := hD
          refine lv_iload hx hb dL_law_782 (lv_at hl 1 rfl) ?_
          refine lv_icmp_eq (tgt := 789) hx hb dL_law_784 (by decide) (fun c_34 => ?_) (fun c_34 => ?_)
          · refine lv_iload hx hb dL_law_789 (lv_at hl 1 rfl) ?_
            refine lv_if_ne (tgt := 806) hx hb dL_law_791 (by decide) (fun c_35 => ?_) (fun c_35 => ?_)
            · refine lv_goto (tgt := 4264) hx hb dL_law_806 (by decide) ?_
              refine W.widen (k := 200 + 300) (n := 8000 + 2000) (Nat.le_of_ble_eq_true rfl) (Nat.le_of_ble_eq_true rfl) ?_
              exact kk _ _ _ hS (lv_sub hl [7, 2] rfl)
            · exact absurd c_35 (by decide)
          · exact absurd c_34 (by decide)
        · obtain ⟨c_36, c_37, c_38, c_39⟩ := hw
          obtain ⟨hP1, hD1⟩ := hB
          rw [ht1] at hP1
          obtain ⟨hP, hD⟩ := va_join (wr := [(o1, .inl (g 1, 1, .inr (.inl (fun _ => 0))))]) (w1 := [((a 200), .inr (21, [.int 1, .ref (a 201), .ref (a 202), .ref (a 203), .ref (a 204), .ref (a 205), .ref (a 206), .int 0, .int 0, .int 0, .int 0, .ref (a 208), .ref (a 209), .ref (a 210), .ref (a 211), .ref (a 212), .int 4, .int 12, .int (-1), .int 0, .ref (g 200), .ref (a 213), .int 0, .int 97, .ref (a 214), .ref (a 215), .ref (a 207), .null, .int 0]))]) hP hD [0, 1] [2] rfl rfl (by decide) (by decide) hk1 hFc hP1 hD1
          have hP : va_P D vwCl [(o1, .inl (g 1, 1, .inr (.inl (fun _ => 0)))), ((a 200), .inr (21, [.int 1, .ref (a 201), .ref (a 202), .ref (a 203), .ref (a 204), .ref (a 205), .ref (a 206), .int 0, .int 0, .int 0, .int 0, .ref (a 208), .ref (a 209), .ref (a 210), .ref (a 211), .ref (a 212), .int 4, .int 12, .int (-1), .int 0, .ref (g 200), .ref (a 213), .int 0, .int 97, .ref (a 214), .ref (a 215), .ref (a 207), .null, .int 0]))] H := hP
          have hD : va_D (va_A [] s.heap.size) [(o1, .inl (g 1, 1, .inr (.inl (fun _ => 0)))), ((a 200), .inr (21, [.int 1, .ref (a 201), .ref (a 202), .ref (a 203), .ref (a 204), .ref (a 205), .ref (a 206), .int 0, .int 0, .int 0, .int 0, .ref (a 208), .ref (a 209), .ref (a 210), .ref (a 211), .ref (a 212), .int 4, .int 12, .int (-1), .int 0, .ref (g 200), .ref (a 213), .int 0, .int 97, .ref (a 214), .ref (a 215), .ref (a 207), .null, .int 0]))] := hD
          refine lv_istore (lv' := [(7, .int 0), (6, .int 1), (0, .ref b), (1, .ref (a 0)), (2, .ref (a 200)), (3, .ref o1), (4, .ref o2), (5, .int 0)]) hx hb dL_law_776 hl (by decide) rfl (fun ls hl => ?_)
          refine lv_aload_n hx hb dL_law_778 rfl (lv_at hl 4 rfl) ?_
          have hPc : va_P D vwCl [((a 200), .inr (21, [.int 1, .ref (a 201), .ref (a 202), .ref (a 203), .ref (a 204), .ref (a 205), .ref (a 206), .int 0, .int 0, .int 0, .int 0, .ref (a 208), .ref (a 209), .ref (a 210), .ref (a 211), .ref (a 212), .int 4, .int 12, .int (-1), .int 0, .ref (g 200), .ref (a 213), .int 0, .int 97, .ref (a 214), .ref (a 215), .ref (a 207), .null, .int 0]))] _ := hP.sub (ws' := [((a 200), .inr (21, [.int 1, .ref (a 201), .ref (a 202), .ref (a 203), .ref (a 204), .ref (a 205), .ref (a 206), .int 0, .int 0, .int 0, .int 0, .ref (a 208), .ref (a 209), .ref (a 210), .ref (a 211), .ref (a 212), .int 4, .int 12, .int (-1), .int 0, .ref (g 200), .ref (a 213), .int 0, .int 97, .ref (a 214), .ref (a 215), .ref (a 207), .null, .int 0]))]) [1] rfl
          have hDc : va_D (fun q => z0 ≤ q) [((a 200), .inr (21, [.int 1, .ref (a 201), .ref (a 202), .ref (a 203), .ref (a 204), .ref (a 205), .ref (a 206), .int 0, .int 0, .int 0, .int 0, .ref (a 208), .ref (a 209), .ref (a 210), .ref (a 211), .ref (a 212), .int 4, .int 12, .int (-1), .int 0, .ref (g 200), .ref (a 213), .int 0, .int 97, .ref (a 214), .ref (a 215), .ref (a 207), .null, .int 0]))] := (hD.to hAz).pick (ws' := [((a 200), .inr (21, [.int 1, .ref (a 201), .ref (a 202), .ref (a 203), .ref (a 204), .ref (a 205), .ref (a 206), .int 0, .int 0, .int 0, .int 0, .ref (a 208), .ref (a 209), .ref (a 210), .ref (a 211), .ref (a 212), .int 4, .int 12, .int (-1), .int 0, .ref (g 200), .ref (a 213), .int 0, .int 97, .ref (a 214), .ref (a 215), .ref (a 207), .null, .int 0]))]) [1] (by decide) rfl
          have hFc := va_free (wc := [((a 200), .inr (21, [.int 1, .ref (a 201), .ref (a 202), .ref (a 203), .ref (a 204), .ref (a 205), .ref (a 206), .int 0, .int 0, .int 0, .int 0, .ref (a 208), .ref (a 209), .ref (a 210), .ref (a 211), .ref (a 212), .int 4, .int 12, .int (-1), .int 0, .ref (g 200), .ref (a 213), .int 0, .int 97, .ref (a 214), .ref (a 215), .ref (a 207), .null, .int 0]))]) hD hS hA [1] rfl
          refine va_calli (va_runV (As := []) (rest := []) ⟨hx, hb, hml, hown, ht⟩ (k_X15_thrown_v2 l D g z0 _ a) (cwV 0 ht (gV w_772 w_774 w_775 w_334 w_773) rfl rfl rfl (by decide +kernel) (le2 rfl rfl)) ⟨PP.blind, va_recv hK.1 hP (ci := 21) (q0 := 1) rfl rfl, PP.mk' hK hZ hz hAz hS hPc hDc⟩ rfl rfl hl.1 rfl (lv_room (Nat.le_of_ble_eq_true rfl)) dL_law_779 (le2 rfl rfl)) hS (fun q _ h => hFc q h) hFc (fun r u t H locs ht1 hvm hw hB hz1 hk1 hS => ?_)
          obtain ⟨rfl, hw⟩ := hw
          obtain ⟨hP1, hD1⟩ := hB
          rw [ht1] at hP1
          obtain ⟨hP, hD⟩ := va_join (wr := [(o1, .inl (g 1, 1, .inr (.inl (fun _ => 0))))]) (w1 := [((a 200), .inr (21, [.int 1, .ref (a 201), .ref (a 202), .ref (a 203), .ref (a 204), .ref (a 205), .ref (a 206), .int 0, .int 0, .int 0, .int 0, .ref (a 208), .ref (a 209), .ref (a 210), .ref (a 211), .ref (a 212), .int 4, .int 12, .int (-1), .int 0, .ref (g 200), .ref (a 213), .int 0, .int 97, .ref (a 214), .ref (a 215), .ref (a 207), .null, .int 0]))]) hP hD [1] [0] rfl rfl (by decide) (by decide) hk1 hFc hP1 hD1
          have hP : va_P D vwCl [(o1, .inl (g 1, 1, .inr (.inl (fun _ => 0)))), ((a 200), .inr (21, [.int 1, .ref (a 201), .ref (a 202), .ref (a 203), .ref (a 204), .ref (a 205), .ref (a 206), .int 0, .int 0, .int 0, .int 0, .ref (a 208), .ref (a 209), .ref (a 210), .ref (a 211), .ref (a 212), .int 4, .int 12, .int (-1), .int 0, .ref (g 200), .ref (a 213), .int 0, .int 97, .ref (a 214), .ref (a 215), .ref (a 207), .null, .int 0]))] H := hP
          have hD : va_D (va_A [] s.heap.size) [(o1, .inl (g 1, 1, .inr (.inl (fun _ => 0)))), ((a 200), .inr (21, [.int 1, .ref (a 201), .ref (a 202), .ref (a 203), .ref (a 204), .ref (a 205), .ref (a 206), .int 0, .int 0, .int 0, .int 0, .ref (a 208), .ref (a 209), .ref (a 210), .ref (a 211), .ref (a 212), .int 4, .int 12, .int (-1), .int 0, .ref (g 200), .ref (a 213), .int 0, .int 97, .ref (a 214), .ref (a 215), .ref (a 207), .null, .int 0]))] := hD
          refine lv_iload hx hb dL_law_782 (lv_at hl 1 rfl) ?_
          refine lv_icmp_eq (tgt := 789) hx hb dL_law_784 (by decide) (fun c_40 => ?_) (fun c_40 => ?_)
          · refine lv_iload hx hb dL_law_789 (lv_at hl 1 rfl) ?_
            refine lv_if_ne (tgt := 806) hx hb dL_law_791 (by decide) (fun c_41 => ?_) (fun c_41 => ?_)
            · refine lv_goto (tgt := 4264) hx hb dL_law_806 (by decide) ?_
              refine W.widen (k := 200 + 300) (n := 8000 + 2000) (Nat.le_of_ble_eq_true rfl) (Nat.le_of_ble_eq_true rfl) ?_
              exact kk _ _ _ hS (lv_sub hl [7, 2] rfl)
            · exact absurd c_41 (by decide)
          · exact absurd c_40 (by decide)
        · obtain ⟨c_42, c_43, c_44, c_45, c_46⟩ := hw
          obtain ⟨hP1, hD1⟩ := hB
          rw [ht1] at hP1
          obtain ⟨hP, hD⟩ := va_join (wr := [(o1, .inl (g 1, 1, .inr (.inl (fun _ => 0))))]) (w1 := [((a 200), .inr (21, [.int 1, .ref (a 201), .ref (a 202), .ref (a 203), .ref (a 204), .ref (a 205), .ref (a 206), .int 0, .int 0, .int 0, .int 0, .ref (a 208), .ref (a 209), .ref (a 210), .ref (a 211), .ref (a 212), .int 4, .int 12, .int (-1), .int 0, .ref (g 200), .ref (a 213), .int 0, .int 97, .ref (a 214), .ref (a 215), .ref (a 207), .null, .int 0]))]) hP hD [0, 1] [2] rfl rfl (by decide) (by decide) hk1 hFc hP1 hD1
          have hP : va_P D vwCl [(o1, .inl (g 1, 1, .inr (.inl (fun _ => 0)))), ((a 200), .inr (21, [.int 1, .ref (a 201), .ref (a 202), .ref (a 203), .ref (a 204), .ref (a 205), .ref (a 206), .int 0, .int 0, .int 0, .int 0, .ref (a 208), .ref (a 209), .ref (a 210), .ref (a 211), .ref (a 212), .int 4, .int 12, .int (-1), .int 0, .ref (g 200), .ref (a 213), .int 0, .int 97, .ref (a 214), .ref (a 215), .ref (a 207), .null, .int 0]))] H := hP
          have hD : va_D (va_A [] s.heap.size) [(o1, .inl (g 1, 1, .inr (.inl (fun _ => 0)))), ((a 200), .inr (21, [.int 1, .ref (a 201), .ref (a 202), .ref (a 203), .ref (a 204), .ref (a 205), .ref (a 206), .int 0, .int 0, .int 0, .int 0, .ref (a 208), .ref (a 209), .ref (a 210), .ref (a 211), .ref (a 212), .int 4, .int 12, .int (-1), .int 0, .ref (g 200), .ref (a 213), .int 0, .int 97, .ref (a 214), .ref (a 215), .ref (a 207), .null, .int 0]))] := hD
          refine lv_istore (lv' := [(7, .int 0), (6, .int 1), (0, .ref b), (1, .ref (a 0)), (2, .ref (a 200)), (3, .ref o1), (4, .ref o2), (5, .int 0)]) hx hb dL_law_776 hl (by decide) rfl (fun ls hl => ?_)
          refine lv_aload_n hx hb dL_law_778 rfl (lv_at hl 4 rfl) ?_
          have hPc : va_P D vwCl [((a 200), .inr (21, [.int 1, .ref (a 201), .ref (a 202), .ref (a 203), .ref (a 204), .ref (a 205), .ref (a 206), .int 0, .int 0, .int 0, .int 0, .ref (a 208), .ref (a 209), .ref (a 210), .ref (a 211), .ref (a 212), .int 4, .int 12, .int (-1), .int 0, .ref (g 200), .ref (a 213), .int 0, .int 97, .ref (a 214), .ref (a 215), .ref (a 207), .null, .int 0]))] _ := hP.sub (ws' := [((a 200), .inr (21, [.int 1, .ref (a 201), .ref (a 202), .ref (a 203), .ref (a 204), .ref (a 205), .ref (a 206), .int 0, .int 0, .int 0, .int 0, .ref (a 208), .ref (a 209), .ref (a 210), .ref (a 211), .ref (a 212), .int 4, .int 12, .int (-1), .int 0, .ref (g 200), .ref (a 213), .int 0, .int 97, .ref (a 214), .ref (a 215), .ref (a 207), .null, .int 0]))]) [1] rfl
          have hDc : va_D (fun q => z0 ≤ q) [((a 200), .inr (21, [.int 1, .ref (a 201), .ref (a 202), .ref (a 203), .ref (a 204), .ref (a 205), .ref (a 206), .int 0, .int 0, .int 0, .int 0, .ref (a 208), .ref (a 209), .ref (a 210), .ref (a 211), .ref (a 212), .int 4, .int 12, .int (-1), .int 0, .ref (g 200), .ref (a 213), .int 0, .int 97, .ref (a 214), .ref (a 215), .ref (a 207), .null, .int 0]))] := (hD.to hAz).pick (ws' := [((a 200), .inr (21, [.int 1, .ref (a 201), .ref (a 202), .ref (a 203), .ref (a 204), .ref (a 205), .ref (a 206), .int 0, .int 0, .int 0, .int 0, .ref (a 208), .ref (a 209), .ref (a 210), .ref (a 211), .ref (a 212), .int 4, .int 12, .int (-1), .int 0, .ref (g 200), .ref (a 213), .int 0, .int 97, .ref (a 214), .ref (a 215), .ref (a 207), .null, .int 0]))]) [1] (by decide) rfl
          have hFc := va_free (wc := [((a 200), .inr (21, [.int 1, .ref (a 201), .ref (a 202), .ref (a 203), .ref (a 204), .ref (a 205), .ref (a 206), .int 0, .int 0, .int 0, .int 0, .ref (a 208), .ref (a 209), .ref (a 210), .ref (a 211), .ref (a 212), .int 4, .int 12, .int (-1), .int 0, .ref (g 200), .ref (a 213), .int 0, .int 97, .ref (a 214), .ref (a 215), .ref (a 207), .null, .int 0]))]) hD hS hA [1] rfl
          refine va_calli (va_runV (As := []) (rest := []) ⟨hx, hb, hml, hown, ht⟩ (k_X15_thrown_v2 l D g z0 _ a) (cwV 0 ht (gV w_772 w_774 w_775 w_334 w_773) rfl rfl rfl (by decide +kernel) (le2 rfl rfl)) ⟨PP.blind, va_recv hK.1 hP (ci := 21) (q0 := 1) rfl rfl, PP.mk' hK hZ hz hAz hS hPc hDc⟩ rfl rfl hl.1 rfl (lv_room (Nat.le_of_ble_eq_true rfl)) dL_law_779 (le2 rfl rfl)) hS (fun q _ h => hFc q h) hFc (fun r u t H locs ht1 hvm hw hB hz1 hk1 hS => ?_)
          obtain ⟨rfl, hw⟩ := hw
          obtain ⟨hP1, hD1⟩ := hB
          rw [ht1] at hP1
          obtain ⟨hP, hD⟩ := va_join (wr := [(o1, .inl (g 1, 1, .inr (.inl (fun _ => 0))))]) (w1 := [((a 200), .inr (21, [.int 1, .ref (a 201), .ref (a 202), .ref (a 203), .ref (a 204), .ref (a 205), .ref (a 206), .int 0, .int 0, .int 0, .int 0, .ref (a 208), .ref (a 209), .ref (a 210), .ref (a 211), .ref (a 212), .int 4, .int 12, .int (-1), .int 0, .ref (g 200), .ref (a 213), .int 0, .int 97, .ref (a 214), .ref (a 215), .ref (a 207), .null, .int 0]))]) hP hD [1] [0] rfl rfl (by decide) (by decide) hk1 hFc hP1 hD1
          have hP : va_P D vwCl [(o1, .inl (g 1, 1, .inr (.inl (fun _ => 0)))), ((a 200), .inr (21, [.int 1, .ref (a 201), .ref (a 202), .ref (a 203), .ref (a 204), .ref (a 205), .ref (a 206), .int 0, .int 0, .int 0, .int 0, .ref (a 208), .ref (a 209), .ref (a 210), .ref (a 211), .ref (a 212), .int 4, .int 12, .int (-1), .int 0, .ref (g 200), .ref (a 213), .int 0, .int 97, .ref (a 214), .ref (a 215), .ref (a 207), .null, .int 0]))] H := hP
          have hD : va_D (va_A [] s.heap.size) [(o1, .inl (g 1, 1, .inr (.inl (fun _ => 0)))), ((a 200), .inr (21, [.int 1, .ref (a 201), .ref (a 202), .ref (a 203), .ref (a 204), .ref (a 205), .ref (a 206), .int 0, .int 0, .int 0, .int 0, .ref (a 208), .ref (a 209), .ref (a 210), .ref (a 211), .ref (a 212), .int 4, .int 12, .int (-1), .int 0, .ref (g 200), .ref (a 213), .int 0, .int 97, .ref (a 214), .ref (a 215), .ref (a 207), .null, .int 0]))] := hD
          refine lv_iload hx hb dL_law_782 (lv_at hl 1 rfl) ?_
          refine lv_icmp_eq (tgt := 789) hx hb dL_law_784 (by decide) (fun c_47 => ?_) (fun c_47 => ?_)
          · refine lv_iload hx hb dL_law_789 (lv_at hl 1 rfl) ?_
            refine lv_if_ne (tgt := 806) hx hb dL_law_791 (by decide) (fun c_48 => ?_) (fun c_48 => ?_)
            · refine lv_goto (tgt := 4264) hx hb dL_law_806 (by decide) ?_
              refine W.widen (k := 200 + 300) (n := 8000 + 2000) (Nat.le_of_ble_eq_true rfl) (Nat.le_of_ble_eq_true rfl) ?_
              exact kk _ _ _ hS (lv_sub hl [7, 2] rfl)
            · exact absurd c_48 (by decide)
          · exact absurd c_47 (by decide)
      · obtain ⟨rfl, rfl, hw⟩ := hw
        obtain ⟨c_49, c_50, c_51, c_52, c_53⟩ := hw
        exact absurd c_53 c_27
  · obtain ⟨rfl, hw⟩ := hw
    obtain ⟨c_54, c_55, c_56⟩ := hw
    obtain ⟨hP1, hD1⟩ := hB
    rw [ht1] at hP1
    obtain ⟨hP, hD⟩ := va_join (wr := [((a 200), f_m a g), ((a 202), .inr (5, [.int 0, .ref (g 100), .int 0]))]) (w1 := [(o1, .inl (g 1, 1, .inr (.inl (fun _ => 0))))]) hP hD [4, 0, 1] [2, 3] rfl rfl (by decide) (by decide) hk1 hFc hP1 hD1
    have hP : va_P D vwCl [((a 200), f_m a g), ((a 202), .inr (5, [.int 0, .ref (g 100), .int 0])), (o1, .inl (g 1, 1, .inr (.inl (fun _ => 0))))] H := hP
    have hD : va_D (va_A [] s.heap.size) [((a 200), f_m a g), ((a 202), .inr (5, [.int 0, .ref (g 100), .int 0])), (o1, .inl (g 1, 1, .inr (.inl (fun _ => 0))))] := hD
    refine lv_istore (lv' := [(6, .int 2), (0, .ref b), (1, .ref (a 0)), (2, .ref (a 200)), (3, .ref o1), (4, .ref o2), (5, .int 0)]) hx hb dL_law_758 hl (by decide) rfl (fun ls hl => ?_)
    refine lv_aload_n hx hb dL_law_760 rfl (lv_at hl 3 rfl) ?_
    refine lv_aload_n hx hb dL_law_761 rfl (lv_at hl 1 rfl) ?_
    refine lv_iload hx hb dL_law_762 (lv_at hl 6 rfl) ?_
    refine lv_iconst (v := 1) hx hb dL_law_764 (by decide) ?_
    refine lv_iadd hx hb dL_law_765 ?_
    refine r_topi (v := 1) (by decide) ?_
    refine va_sld hx hb hX hbl hbA hS (by unfold vp_in; decide) dL_law_766 ?_
    refine r_topi (v := xs 1) (congrArg xs (by decide)) ?_
    refine lv_aload_n hx hb dL_law_767 rfl (lv_at hl 1 rfl) ?_
    refine lv_iload hx hb dL_law_768 (lv_at hl 6 rfl) ?_
    refine lv_iconst (v := 2) hx hb dL_law_770 (by decide) ?_
    refine lv_iadd hx hb dL_law_771 ?_
    refine r_topi (v := 2) (by decide) ?_
    refine va_sld hx hb hX hbl hbA hS (by unfold vp_in; decide) dL_law_772 ?_
    refine r_topi (v := xs 2) (congrArg xs (by decide)) ?_
    have hPc : va_P D vwCl [((a 200), f_m a g), ((a 202), .inr (5, [.int 0, .ref (g 100), .int 0]))] _ := hP.sub (ws' := [((a 200), f_m a g), ((a 202), .inr (5, [.int 0, .ref (g 100), .int 0]))]) [0, 1] rfl
    have hDc : va_D (fun q => z0 ≤ q) [((a 200), f_m a g), ((a 202), .inr (5, [.int 0, .ref (g 100), .int 0]))] := (hD.to hAz).pick (ws' := [((a 200), f_m a g), ((a 202), .inr (5, [.int 0, .ref (g 100), .int 0]))]) [0, 1] (by decide) rfl
    have hFc := va_free (wc := [((a 200), f_m a g), ((a 202), .inr (5, [.int 0, .ref (g 100), .int 0]))]) hD hS hA [0, 1] rfl
    refine va_calli (va_runV (As := [.int (xs 1), .int (xs 2)]) (rest := []) ⟨hx, hb, hml, hown, ht⟩ (k_X15_pattern l D g z0 _ a (xs 1) (xs 2)) (cwV 2 ht (gV w_821 w_823 w_824 w_334 w_822) rfl rfl rfl (by decide +kernel) (le2 rfl rfl)) ⟨PP.blind, va_recv hK.1 hP (ci := 21) (q0 := 0) rfl rfl, PP.mk' hK hZ hz hAz hS hPc hDc⟩ rfl rfl hl.1 rfl (lv_room (Nat.le_of_ble_eq_true rfl)) dL_law_773 (le2 rfl rfl)) hS (fun q _ h => hFc q h) hFc (fun r u t H locs ht1 hvm hw hB hz1 hk1 hS => ?_)
    rcases hw with hw | hw
    · obtain ⟨rfl, rfl, hw⟩ := hw
      rcases hw with hw | hw | hw | hw | hw
      · have c_57 := hw
        exact absurd (c_54 ▸ c_57) (by decide)
      · obtain ⟨c_58, c_59⟩ := hw
        exact absurd (c_54 ▸ c_59) (by decide)
      · obtain ⟨c_60, c_61, c_62⟩ := hw
        exact absurd (c_56 ▸ c_62) (by decide)
      · obtain ⟨c_63, c_64, c_65, c_66⟩ := hw
        exact absurd (c_56 ▸ c_66) (by decide)
      · obtain ⟨c_67, c_68, c_69, c_70, c_71⟩ := hw
        exact absurd c_55 c_71
    · obtain ⟨rfl, rfl, hw⟩ := hw
      obtain ⟨c_72, c_73, c_74, c_75, c_76⟩ := hw
      obtain ⟨hP1, hD1⟩ := hB
      rw [ht1] at hP1
      obtain ⟨hP, hD⟩ := va_join (wr := [(o1, .inl (g 1, 1, .inr (.inl (fun _ => 0))))]) (w1 := [((a 200), .inr (21, [.int 2, .ref (a 201), .ref (a 202), .ref (a 203), .ref (a 204), .ref (a 205), .ref (a 206), .int 0, .int 0, .int 0, .int 0, .ref (a 208), .ref (a 209), .ref (a 210), .ref (a 211), .ref (a 212), .int 4, .int 12, .int (-1), .int 0, .ref (g 200), .ref (a 213), .int 0, .int 97, .ref (a 214), .ref (a 215), .ref (a 207), .null, .int 0]))]) hP hD [0, 1] [2] rfl rfl (by decide) (by decide) hk1 hFc hP1 hD1
      have hP : va_P D vwCl [(o1, .inl (g 1, 1, .inr (.inl (fun _ => 0)))), ((a 200), .inr (21, [.int 2, .ref (a 201), .ref (a 202), .ref (a 203), .ref (a 204), .ref (a 205), .ref (a 206), .int 0, .int 0, .int 0, .int 0, .ref (a 208), .ref (a 209), .ref (a 210), .ref (a 211), .ref (a 212), .int 4, .int 12, .int (-1), .int 0, .ref (g 200), .ref (a 213), .int 0, .int 97, .ref (a 214), .ref (a 215), .ref (a 207), .null, .int 0]))] H := hP
      have hD : va_D (va_A [] s.heap.size) [(o1, .inl (g 1, 1, .inr (.inl (fun _ => 0)))), ((a 200), .inr (21, [.int 2, .ref (a 201), .ref (a 202), .ref (a 203), .ref (a 204), .ref (a 205), .ref (a 206), .int 0, .int 0, .int 0, .int 0, .ref (a 208), .ref (a 209), .ref (a 210), .ref (a 211), .ref (a 212), .int 4, .int 12, .int (-1), .int 0, .ref (g 200), .ref (a 213), .int 0, .int 97, .ref (a 214), .ref (a 215), .ref (a 207), .null, .int 0]))] := hD
      refine lv_istore (lv' := [(7, .int 0), (6, .int 2), (0, .ref b), (1, .ref (a 0)), (2, .ref (a 200)), (3, .ref o1), (4, .ref o2), (5, .int 0)]) hx hb dL_law_776 hl (by decide) rfl (fun ls hl => ?_)
      refine lv_aload_n hx hb dL_law_778 rfl (lv_at hl 4 rfl) ?_
      have hPc : va_P D vwCl [((a 200), .inr (21, [.int 2, .ref (a 201), .ref (a 202), .ref (a 203), .ref (a 204), .ref (a 205), .ref (a 206), .int 0, .int 0, .int 0, .int 0, .ref (a 208), .ref (a 209), .ref (a 210), .ref (a 211), .ref (a 212), .int 4, .int 12, .int (-1), .int 0, .ref (g 200), .ref (a 213), .int 0, .int 97, .ref (a 214), .ref (a 215), .ref (a 207), .null, .int 0]))] _ := hP.sub (ws' := [((a 200), .inr (21, [.int 2, .ref (a 201), .ref (a 202), .ref (a 203), .ref (a 204), .ref (a 205), .ref (a 206), .int 0, .int 0, .int 0, .int 0, .ref (a 208), .ref (a 209), .ref (a 210), .ref (a 211), .ref (a 212), .int 4, .int 12, .int (-1), .int 0, .ref (g 200), .ref (a 213), .int 0, .int 97, .ref (a 214), .ref (a 215), .ref (a 207), .null, .int 0]))]) [1] rfl
      have hDc : va_D (fun q => z0 ≤ q) [((a 200), .inr (21, [.int 2, .ref (a 201), .ref (a 202), .ref (a 203), .ref (a 204), .ref (a 205), .ref (a 206), .int 0, .int 0, .int 0, .int 0, .ref (a 208), .ref (a 209), .ref (a 210), .ref (a 211), .ref (a 212), .int 4, .int 12, .int (-1), .int 0, .ref (g 200), .ref (a 213), .int 0, .int 97, .ref (a 214), .ref (a 215), .ref (a 207), .null, .int 0]))] := (hD.to hAz).pick (ws' := [((a 200), .inr (21, [.int 2, .ref (a 201), .ref (a 202), .ref (a 203), .ref (a 204), .ref (a 205), .ref (a 206), .int 0, .int 0, .int 0, .int 0, .ref (a 208), .ref (a 209), .ref (a 210), .ref (a 211), .ref (a 212), .int 4, .int 12, .int (-1), .int 0, .ref (g 200), .ref (a 213), .int 0, .int 97, .ref (a 214), .ref (a 215), .ref (a 207), .null, .int 0]))]) [1] (by decide) rfl
      have hFc := va_free (wc := [((a 200), .inr (21, [.int 2, .ref (a 201), .ref (a 202), .ref (a 203), .ref (a 204), .ref (a 205), .ref (a 206), .int 0, .int 0, .int 0, .int 0, .ref (a 208), .ref (a 209), .ref (a 210), .ref (a 211), .ref (a 212), .int 4, .int 12, .int (-1), .int 0, .ref (g 200), .ref (a 213), .int 0, .int 97, .ref (a 214), .ref (a 215), .ref (a 207), .null, .int 0]))]) hD hS hA [1] rfl
      refine va_calli (va_runV (As := []) (rest := []) ⟨hx, hb, hml, hown, ht⟩ (k_X15_thrown_v1 l D g z0 _ a) (cwV 0 ht (gV w_772 w_774 w_775 w_334 w_773) rfl rfl rfl (by decide +kernel) (le2 rfl rfl)) ⟨PP.blind, va_recv hK.1 hP (ci := 21) (q0 := 1) rfl rfl, PP.mk' hK hZ hz hAz hS hPc hDc⟩ rfl rfl hl.1 rfl (lv_room (Nat.le_of_ble_eq_true rfl)) dL_law_779 (le2 rfl rfl)) hS (fun q _ h => hFc q h) hFc (fun r u t H locs ht1 hvm hw hB hz1 hk1 hS => ?_)
      obtain ⟨rfl, hw⟩ := hw
      obtain ⟨hP1, hD1⟩ := hB
      rw [ht1] at hP1
      obtain ⟨hP, hD⟩ := va_join (wr := [(o1, .inl (g 1, 1, .inr (.inl (fun _ => 0))))]) (w1 := [((a 200), .inr (21, [.int 2, .ref (a 201), .ref (a 202), .ref (a 203), .ref (a 204), .ref (a 205), .ref (a 206), .int 0, .int 0, .int 0, .int 0, .ref (a 208), .ref (a 209), .ref (a 210), .ref (a 211), .ref (a 212), .int 4, .int 12, .int (-1), .int 0, .ref (g 200), .ref (a 213), .int 0, .int 97, .ref (a 214), .ref (a 215), .ref (a 207), .null, .int 0]))]) hP hD [1] [0] rfl rfl (by decide) (by decide) hk1 hFc hP1 hD1
      have hP : va_P D vwCl [(o1, .inl (g 1, 1, .inr (.inl (fun _ => 0)))), ((a 200), .inr (21, [.int 2, .ref (a 201), .ref (a 202), .ref (a 203), .ref (a 204), .ref (a 205), .ref (a 206), .int 0, .int 0, .int 0, .int 0, .ref (a 208), .ref (a 209), .ref (a 210), .ref (a 211), .ref (a 212), .int 4, .int 12, .int (-1), .int 0, .ref (g 200), .ref (a 213), .int 0, .int 97, .ref (a 214), .ref (a 215), .ref (a 207), .null, .int 0]))] H := hP
      have hD : va_D (va_A [] s.heap.size) [(o1, .inl (g 1, 1, .inr (.inl (fun _ => 0)))), ((a 200), .inr (21, [.int 2, .ref (a 201), .ref (a 202), .ref (a 203), .ref (a 204), .ref (a 205), .ref (a 206), .int 0, .int 0, .int 0, .int 0, .ref (a 208), .ref (a 209), .ref (a 210), .ref (a 211), .ref (a 212), .int 4, .int 12, .int (-1), .int 0, .ref (g 200), .ref (a 213), .int 0, .int 97, .ref (a 214), .ref (a 215), .ref (a 207), .null, .int 0]))] := hD
      refine lv_iload hx hb dL_law_782 (lv_at hl 1 rfl) ?_
      refine lv_icmp_eq (tgt := 789) hx hb dL_law_784 (by decide) (fun c_77 => ?_) (fun c_77 => ?_)
      · refine lv_iload hx hb dL_law_789 (lv_at hl 1 rfl) ?_
        refine lv_if_ne (tgt := 806) hx hb dL_law_791 (by decide) (fun c_78 => ?_) (fun c_78 => ?_)
        · refine lv_goto (tgt := 4264) hx hb dL_law_806 (by decide) ?_
          refine W.widen (k := 200 + 300) (n := 8000 + 2000) (Nat.le_of_ble_eq_true rfl) (Nat.le_of_ble_eq_true rfl) ?_
          exact kk _ _ _ hS (lv_sub hl [7, 2] rfl)
        · exact absurd c_78 (by decide)
      · exact absurd c_77 (by decide)
set_option maxHeartbeats 4000000 in
set_option maxRecDepth 100000 in
theorem lw_case_8 {p : Program} {l : Launch} {e : Env} {s : State} {m : MethodId} {below : List Frame} {meth : Method} {c : Code} {H : Heap} {locs : List Loc} {ls : Array Slot} {Q : State → Prop} {D : va_G} {g : Nat → ClassId} {z0 b : Nat} {xs : Nat → Int32} {a : Nat → Nat} {o1 o2 : Nat} (hfl : l.stackTraces = false) (hx : p.tables.exec = Jvm.exec) (hb : c.code = cL_law) (hml : c.maxLocals = 9) (hown : s.vm.findClass RL = some m.cls) (ht : ∀ w ∈ TG, w.before #[Value.ref b] s = true) (hX : va_X b 6 xs s s.heap) (hbl : b < s.heap.size) (hbA : ¬ va_A [] s.heap.size b) (hK : KK D g s) (hZ : ZZ g z0 s) (hz : z0 ≤ s.heap.size) (hAz : ∀ q, va_A [] s.heap.size q → z0 ≤ q) (hP : va_P D vwCl (lwW a g o1 o2) H) (hD : va_D (va_A [] s.heap.size) (lwW a g o1 o2)) (hS : va_S (va_A [] s.heap.size) s.heap H locs) (hl : lv_has ls 9 [(0, .ref b), (1, .ref (a 0)), (2, .ref (a 200)), (3, .ref o1), (4, .ref o2), (5, .int 0)])
    (kk : ∀ (H : Heap) (locs : List Loc) (ls : Array Slot), va_S (va_A [] s.heap.size) s.heap H locs → lv_has ls 9 [(5, .int 0), (0, .ref b)] → W p l e room_1 s m #[Value.ref b] below meth c H locs (200 + 300) (8000 + 2000) Q (F0 m 4264 ls [])) :
    W p l e room_1 s m #[Value.ref b] below meth c H locs 200 8000 Q (F0 m 809 ls []) := by
  have hA : ∀ q : Nat, s.heap.size ≤ q → va_A [] s.heap.size q := Anw
  have hP := hP.sub (ws' := [((a 0), f_x a), ((a 3), f_rows a), ((a 200), f_m a g), ((a 206), .inr (5, [.int 0, .ref (g 100), .int 0])), (o1, .inl (g 1, 1, .inr (.inl (fun _ => 0))))]) [0, 7, 26, 32, 61] rfl
  have hD := hD.sub (ws' := [((a 0), f_x a), ((a 3), f_rows a), ((a 200), f_m a g), ((a 206), .inr (5, [.int 0, .ref (g 100), .int 0])), (o1, .inl (g 1, 1, .inr (.inl (fun _ => 0))))]) [0, 7, 26, 32, 61] (by decide) rfl
  refine lv_aload_n hx hb dL_law_809 rfl (lv_at hl 1 rfl) ?_
  refine lv_aload_n hx hb dL_law_810 rfl (lv_at hl 0 rfl) ?_
  refine lv_iload hx hb dL_law_811 (lv_at hl 5 rfl) ?_
  refine lv_iconst (v := 1) hx hb dL_law_813 (by decide) ?_
  refine lv_iadd hx hb dL_law_814 ?_
  refine r_topi (v := 1) (by decide) ?_
  refine va_sld hx hb hX hbl hbA hS (by unfold vp_in; decide) dL_law_815 ?_
  refine r_topi (v := xs 1) (congrArg xs (by decide)) ?_
  refine lv_aload_n hx hb dL_law_816 rfl (lv_at hl 0 rfl) ?_
  refine lv_iload hx hb dL_law_817 (lv_at hl 5 rfl) ?_
  refine lv_iconst (v := 2) hx hb dL_law_819 (by decide) ?_
  refine lv_iadd hx hb dL_law_820 ?_
  refine r_topi (v := 2) (by decide) ?_
  refine va_sld hx hb hX hbl hbA hS (by unfold vp_in; decide) dL_law_821 ?_
  refine r_topi (v := xs 2) (congrArg xs (by decide)) ?_
  refine lv_aload_n hx hb dL_law_822 rfl (lv_at hl 3 rfl) ?_
  have hPc : va_P D vwCl [(o1, .inl (g 1, 1, .inr (.inl (fun _ => 0)))), ((a 0), f_x a), ((a 3), f_rows a)] _ := hP.sub (ws' := [(o1, .inl (g 1, 1, .inr (.inl (fun _ => 0)))), ((a 0), f_x a), ((a 3), f_rows a)]) [4, 0, 1] rfl
  have hDc : va_D (fun q => z0 ≤ q) [(o1, .inl (g 1, 1, .inr (.inl (fun _ => 0)))), ((a 0), f_x a), ((a 3), f_rows a)] := (hD.to hAz).pick (ws' := [(o1, .inl (g 1, 1, .inr (.inl (fun _ => 0)))), ((a 0), f_x a), ((a 3), f_rows a)]) [4, 0, 1] (by decide) rfl
  have hFc := va_free (wc := [(o1, .inl (g 1, 1, .inr (.inl (fun _ => 0)))), ((a 0), f_x a), ((a 3), f_rows a)]) hD hS hA [4, 0, 1] rfl
  refine va_calli (vx_runSW (As := [.ref (a 0), .int (xs 1), .int (xs 2), .ref o1]) (rest := []) ⟨hx, hb, hml, hown, ht⟩ (k_L_value l hfl D g z0 _ a (xs 1) (xs 2) o1) (vx_cwSW 4 ht (gS w_825 w_827 w_767 w_826) rfl rfl rfl (by decide +kernel) (le2 rfl rfl)) ⟨PP.blind, PP.mk' hK hZ hz hAz hS hPc hDc⟩ rfl rfl hl.1 rfl (lv_room (Nat.le_of_ble_eq_true rfl)) dL_law_823 (le2 rfl rfl)) hS (fun q _ h => hFc q h) hFc (fun r u t H locs ht1 hvm hw hB hz1 hk1 hS => ?_)
  obtain ⟨rfl, hw⟩ := hw
  obtain ⟨hP1, hD1⟩ := hB
  rw [ht1] at hP1
  obtain ⟨hP, hD⟩ := va_join (wr := [((a 200), f_m a g), ((a 206), .inr (5, [.int 0, .ref (g 100), .int 0]))]) (w1 := [(o1, .inl (g 1, 1, .inr (.inl (fun _ => 0))))]) hP hD [4, 0, 1] [2, 3] rfl rfl (by decide) (by decide) hk1 hFc hP1 hD1
  have hP : va_P D vwCl [((a 200), f_m a g), ((a 206), .inr (5, [.int 0, .ref (g 100), .int 0])), (o1, .inl (g 1, 1, .inr (.inl (fun _ => 0))))] H := hP
  have hD : va_D (va_A [] s.heap.size) [((a 200), f_m a g), ((a 206), .inr (5, [.int 0, .ref (g 100), .int 0])), (o1, .inl (g 1, 1, .inr (.inl (fun _ => 0))))] := hD
  refine lv_istore (lv' := [(6, .int 1), (0, .ref b), (1, .ref (a 0)), (2, .ref (a 200)), (3, .ref o1), (4, .ref o2), (5, .int 0)]) hx hb dL_law_826 hl (by decide) rfl (fun ls hl => ?_)
  refine lv_aload_n hx hb dL_law_828 rfl (lv_at hl 3 rfl) ?_
  refine lv_aload_n hx hb dL_law_829 rfl (lv_at hl 1 rfl) ?_
  refine lv_iload hx hb dL_law_830 (lv_at hl 6 rfl) ?_
  refine lv_iconst (v := 1) hx hb dL_law_832 (by decide) ?_
  refine lv_iadd hx hb dL_law_833 ?_
  refine r_topi (v := 1) (by decide) ?_
  refine va_sld hx hb hX hbl hbA hS (by unfold vp_in; decide) dL_law_834 ?_
  refine r_topi (v := xs 1) (congrArg xs (by decide)) ?_
  refine lv_aload_n hx hb dL_law_835 rfl (lv_at hl 1 rfl) ?_
  refine lv_iload hx hb dL_law_836 (lv_at hl 6 rfl) ?_
  refine lv_iconst (v := 2) hx hb dL_law_838 (by decide) ?_
  refine lv_iadd hx hb dL_law_839 ?_
  refine r_topi (v := 2) (by decide) ?_
  refine va_sld hx hb hX hbl hbA hS (by unfold vp_in; decide) dL_law_840 ?_
  refine r_topi (v := xs 2) (congrArg xs (by decide)) ?_
  have hPc : va_P D vwCl [((a 200), f_m a g), ((a 206), .inr (5, [.int 0, .ref (g 100), .int 0]))] _ := hP.sub (ws' := [((a 200), f_m a g), ((a 206), .inr (5, [.int 0, .ref (g 100), .int 0]))]) [0, 1] rfl
  have hDc : va_D (fun q => z0 ≤ q) [((a 200), f_m a g), ((a 206), .inr (5, [.int 0, .ref (g 100), .int 0]))] := (hD.to hAz).pick (ws' := [((a 200), f_m a g), ((a 206), .inr (5, [.int 0, .ref (g 100), .int 0]))]) [0, 1] (by decide) rfl
  have hFc := va_free (wc := [((a 200), f_m a g), ((a 206), .inr (5, [.int 0, .ref (g 100), .int 0]))]) hD hS hA [0, 1] rfl
  refine va_calli (va_runV (As := [.int (xs 1), .int (xs 2)]) (rest := []) ⟨hx, hb, hml, hown, ht⟩ (k_X15_value l D g z0 _ a (xs 1) (xs 2)) (cwV 2 ht (gV w_828 w_830 w_831 w_334 w_829) rfl rfl rfl (by decide +kernel) (le2 rfl rfl)) ⟨PP.blind, va_recv hK.1 hP (ci := 21) (q0 := 0) rfl rfl, PP.mk' hK hZ hz hAz hS hPc hDc⟩ rfl rfl hl.1 rfl (lv_room (Nat.le_of_ble_eq_true rfl)) dL_law_841 (le2 rfl rfl)) hS (fun q _ h => hFc q h) hFc (fun r u t H locs ht1 hvm hw hB hz1 hk1 hS => ?_)
  obtain ⟨rfl, hw⟩ := hw
  obtain ⟨hP1, hD1⟩ := hB
  rw [ht1] at hP1
  obtain ⟨hP, hD⟩ := va_join (wr := [(o1, .inl (g 1, 1, .inr (.inl (fun _ => 0))))]) (w1 := [((a 200), .inr (21, [.int 1, .ref (a 201), .ref (a 202), .ref (a 203), .ref (a 204), .ref (a 205), .ref (a 206), .int 0, .int 0, .int 0, .int 0, .ref (a 208), .ref (a 209), .ref (a 210), .ref (a 211), .ref (a 212), .int 4, .int 12, .int (-1), .int 0, .ref (g 200), .ref (a 213), .int 0, .int 97, .ref (a 214), .ref (a 215), .ref (a 207), .null, .int 0]))]) hP hD [0, 1] [2] rfl rfl (by decide) (by decide) hk1 hFc hP1 hD1
  have hP : va_P D vwCl [(o1, .inl (g 1, 1, .inr (.inl (fun _ => 0)))), ((a 200), .inr (21, [.int 1, .ref (a 201), .ref (a 202), .ref (a 203), .ref (a 204), .ref (a 205), .ref (a 206), .int 0, .int 0, .int 0, .int 0, .ref (a 208), .ref (a 209), .ref (a 210), .ref (a 211), .ref (a 212), .int 4, .int 12, .int (-1), .int 0, .ref (g 200), .ref (a 213), .int 0, .int 97, .ref (a 214), .ref (a 215), .ref (a 207), .null, .int 0]))] H := hP
  have hD : va_D (va_A [] s.heap.size) [(o1, .inl (g 1, 1, .inr (.inl (fun _ => 0)))), ((a 200), .inr (21, [.int 1, .ref (a 201), .ref (a 202), .ref (a 203), .ref (a 204), .ref (a 205), .ref (a 206), .int 0, .int 0, .int 0, .int 0, .ref (a 208), .ref (a 209), .ref (a 210), .ref (a 211), .ref (a 212), .int 4, .int 12, .int (-1), .int 0, .ref (g 200), .ref (a 213), .int 0, .int 97, .ref (a 214), .ref (a 215), .ref (a 207), .null, .int 0]))] := hD
  refine lv_istore (lv' := [(7, .int 0), (6, .int 1), (0, .ref b), (1, .ref (a 0)), (2, .ref (a 200)), (3, .ref o1), (4, .ref o2), (5, .int 0)]) hx hb dL_law_844 hl (by decide) rfl (fun ls hl => ?_)
  refine lv_aload_n hx hb dL_law_846 rfl (lv_at hl 4 rfl) ?_
  have hPc : va_P D vwCl [((a 200), .inr (21, [.int 1, .ref (a 201), .ref (a 202), .ref (a 203), .ref (a 204), .ref (a 205), .ref (a 206), .int 0, .int 0, .int 0, .int 0, .ref (a 208), .ref (a 209), .ref (a 210), .ref (a 211), .ref (a 212), .int 4, .int 12, .int (-1), .int 0, .ref (g 200), .ref (a 213), .int 0, .int 97, .ref (a 214), .ref (a 215), .ref (a 207), .null, .int 0]))] _ := hP.sub (ws' := [((a 200), .inr (21, [.int 1, .ref (a 201), .ref (a 202), .ref (a 203), .ref (a 204), .ref (a 205), .ref (a 206), .int 0, .int 0, .int 0, .int 0, .ref (a 208), .ref (a 209), .ref (a 210), .ref (a 211), .ref (a 212), .int 4, .int 12, .int (-1), .int 0, .ref (g 200), .ref (a 213), .int 0, .int 97, .ref (a 214), .ref (a 215), .ref (a 207), .null, .int 0]))]) [1] rfl
  have hDc : va_D (fun q => z0 ≤ q) [((a 200), .inr (21, [.int 1, .ref (a 201), .ref (a 202), .ref (a 203), .ref (a 204), .ref (a 205), .ref (a 206), .int 0, .int 0, .int 0, .int 0, .ref (a 208), .ref (a 209), .ref (a 210), .ref (a 211), .ref (a 212), .int 4, .int 12, .int (-1), .int 0, .ref (g 200), .ref (a 213), .int 0, .int 97, .ref (a 214), .ref (a 215), .ref (a 207), .null, .int 0]))] := (hD.to hAz).pick (ws' := [((a 200), .inr (21, [.int 1, .ref (a 201), .ref (a 202), .ref (a 203), .ref (a 204), .ref (a 205), .ref (a 206), .int 0, .int 0, .int 0, .int 0, .ref (a 208), .ref (a 209), .ref (a 210), .ref (a 211), .ref (a 212), .int 4, .int 12, .int (-1), .int 0, .ref (g 200), .ref (a 213), .int 0, .int 97, .ref (a 214), .ref (a 215), .ref (a 207), .null, .int 0]))]) [1] (by decide) rfl
  have hFc := va_free (wc := [((a 200), .inr (21, [.int 1, .ref (a 201), .ref (a 202), .ref (a 203), .ref (a 204), .ref (a 205), .ref (a 206), .int 0, .int 0, .int 0, .int 0, .ref (a 208), .ref (a 209), .ref (a 210), .ref (a 211), .ref (a 212), .int 4, .int 12, .int (-1), .int 0, .ref (g 200), .ref (a 213), .int 0, .int 97, .ref (a 214), .ref (a 215), .ref (a 207), .null, .int 0]))]) hD hS hA [1] rfl
  refine va_calli (va_runV (As := []) (rest := []) ⟨hx, hb, hml, hown, ht⟩ (k_X15_thrown_v2 l D g z0 _ a) (cwV 0 ht (gV w_772 w_774 w_775 w_334 w_773) rfl rfl rfl (by decide +kernel) (le2 rfl rfl)) ⟨PP.blind, va_recv hK.1 hP (ci := 21) (q0 := 1) rfl rfl, PP.mk' hK hZ hz hAz hS hPc hDc⟩ rfl rfl hl.1 rfl (lv_room (Nat.le_of_ble_eq_true rfl)) dL_law_847 (le2 rfl rfl)) hS (fun q _ h => hFc q h) hFc (fun r u t H locs ht1 hvm hw hB hz1 hk1 hS => ?_)
  obtain ⟨rfl, hw⟩ := hw
  obtain ⟨hP1, hD1⟩ := hB
  rw [ht1] at hP1
  obtain ⟨hP, hD⟩ := va_join (wr := [(o1, .inl (g 1, 1, .inr (.inl (fun _ => 0))))]) (w1 := [((a 200), .inr (21, [.int 1, .ref (a 201), .ref (a 202), .ref (a 203), .ref (a 204), .ref (a 205), .ref (a 206), .int 0, .int 0, .int 0, .int 0, .ref (a 208), .ref (a 209), .ref (a 210), .ref (a 211), .ref (a 212), .int 4, .int 12, .int (-1), .int 0, .ref (g 200), .ref (a 213), .int 0, .int 97, .ref (a 214), .ref (a 215), .ref (a 207), .null, .int 0]))]) hP hD [1] [0] rfl rfl (by decide) (by decide) hk1 hFc hP1 hD1
  have hP : va_P D vwCl [(o1, .inl (g 1, 1, .inr (.inl (fun _ => 0)))), ((a 200), .inr (21, [.int 1, .ref (a 201), .ref (a 202), .ref (a 203), .ref (a 204), .ref (a 205), .ref (a 206), .int 0, .int 0, .int 0, .int 0, .ref (a 208), .ref (a 209), .ref (a 210), .ref (a 211), .ref (a 212), .int 4, .int 12, .int (-1), .int 0, .ref (g 200), .ref (a 213), .int 0, .int 97, .ref (a 214), .ref (a 215), .ref (a 207), .null, .int 0]))] H := hP
  have hD : va_D (va_A [] s.heap.size) [(o1, .inl (g 1, 1, .inr (.inl (fun _ => 0)))), ((a 200), .inr (21, [.int 1, .ref (a 201), .ref (a 202), .ref (a 203), .ref (a 204), .ref (a 205), .ref (a 206), .int 0, .int 0, .int 0, .int 0, .ref (a 208), .ref (a 209), .ref (a 210), .ref (a 211), .ref (a 212), .int 4, .int 12, .int (-1), .int 0, .ref (g 200), .ref (a 213), .int 0, .int 97, .ref (a 214), .ref (a 215), .ref (a 207), .null, .int 0]))] := hD
  refine lv_iload hx hb dL_law_850 (lv_at hl 1 rfl) ?_
  refine lv_icmp_eq (tgt := 857) hx hb dL_law_852 (by decide) (fun c_1 => ?_) (fun c_1 => ?_)
  · refine lv_iload hx hb dL_law_857 (lv_at hl 1 rfl) ?_
    refine lv_if_ne (tgt := 874) hx hb dL_law_859 (by decide) (fun c_2 => ?_) (fun c_2 => ?_)
    · refine lv_goto (tgt := 4264) hx hb dL_law_874 (by decide) ?_
      refine W.widen (k := 200 + 300) (n := 8000 + 2000) (Nat.le_of_ble_eq_true rfl) (Nat.le_of_ble_eq_true rfl) ?_
      exact kk _ _ _ hS (lv_sub hl [7, 2] rfl)
    · exact absurd c_2 (by decide)
  · exact absurd c_1 (by decide)
set_option maxHeartbeats 4000000 in
set_option maxRecDepth 100000 in
theorem lw_case_9 {p : Program} {l : Launch} {e : Env} {s : State} {m : MethodId} {below : List Frame} {meth : Method} {c : Code} {H : Heap} {locs : List Loc} {ls : Array Slot} {Q : State → Prop} {D : va_G} {g : Nat → ClassId} {z0 b : Nat} {xs : Nat → Int32} {a : Nat → Nat} {o1 o2 : Nat} (hfl : l.stackTraces = false) (hx : p.tables.exec = Jvm.exec) (hb : c.code = cL_law) (hml : c.maxLocals = 9) (hown : s.vm.findClass RL = some m.cls) (ht : ∀ w ∈ TG, w.before #[Value.ref b] s = true) (hX : va_X b 6 xs s s.heap) (hbl : b < s.heap.size) (hbA : ¬ va_A [] s.heap.size b) (hK : KK D g s) (hZ : ZZ g z0 s) (hz : z0 ≤ s.heap.size) (hAz : ∀ q, va_A [] s.heap.size q → z0 ≤ q) (hP : va_P D vwCl (lwW a g o1 o2) H) (hD : va_D (va_A [] s.heap.size) (lwW a g o1 o2)) (hS : va_S (va_A [] s.heap.size) s.heap H locs) (hl : lv_has ls 9 [(0, .ref b), (1, .ref (a 0)), (2, .ref (a 200)), (3, .ref o1), (4, .ref o2), (5, .int 0)])
    (kk : ∀ (H : Heap) (locs : List Loc) (ls : Array Slot), va_S (va_A [] s.heap.size) s.heap H locs → lv_has ls 9 [(5, .int 0), (0, .ref b)] → W p l e room_1 s m #[Value.ref b] below meth c H locs (200 + 300) (8000 + 2000) Q (F0 m 4264 ls [])) :
    W p l e room_1 s m #[Value.ref b] below meth c H locs 200 8000 Q (F0 m 877 ls []) := by
  have hA : ∀ q : Nat, s.heap.size ≤ q → va_A [] s.heap.size q := Anw
  have hP := hP.sub (ws' := [((a 0), f_x a), ((a 3), f_rows a), ((a 200), f_m a g), ((a 206), .inr (5, [.int 0, .ref (g 100), .int 0])), (o1, .inl (g 1, 1, .inr (.inl (fun _ => 0))))]) [0, 7, 26, 32, 61] rfl
  have hD := hD.sub (ws' := [((a 0), f_x a), ((a 3), f_rows a), ((a 200), f_m a g), ((a 206), .inr (5, [.int 0, .ref (g 100), .int 0])), (o1, .inl (g 1, 1, .inr (.inl (fun _ => 0))))]) [0, 7, 26, 32, 61] (by decide) rfl
  refine lv_aload_n hx hb dL_law_877 rfl (lv_at hl 1 rfl) ?_
  refine lv_aload_n hx hb dL_law_878 rfl (lv_at hl 0 rfl) ?_
  refine lv_iload hx hb dL_law_879 (lv_at hl 5 rfl) ?_
  refine lv_iconst (v := 1) hx hb dL_law_881 (by decide) ?_
  refine lv_iadd hx hb dL_law_882 ?_
  refine r_topi (v := 1) (by decide) ?_
  refine va_sld hx hb hX hbl hbA hS (by unfold vp_in; decide) dL_law_883 ?_
  refine r_topi (v := xs 1) (congrArg xs (by decide)) ?_
  refine lv_aload_n hx hb dL_law_884 rfl (lv_at hl 0 rfl) ?_
  refine lv_iload hx hb dL_law_885 (lv_at hl 5 rfl) ?_
  refine lv_iconst (v := 2) hx hb dL_law_887 (by decide) ?_
  refine lv_iadd hx hb dL_law_888 ?_
  refine r_topi (v := 2) (by decide) ?_
  refine va_sld hx hb hX hbl hbA hS (by unfold vp_in; decide) dL_law_889 ?_
  refine r_topi (v := xs 2) (congrArg xs (by decide)) ?_
  refine lv_aload_n hx hb dL_law_890 rfl (lv_at hl 0 rfl) ?_
  refine lv_iload hx hb dL_law_891 (lv_at hl 5 rfl) ?_
  refine lv_iconst (v := 3) hx hb dL_law_893 (by decide) ?_
  refine lv_iadd hx hb dL_law_894 ?_
  refine r_topi (v := 3) (by decide) ?_
  refine va_sld hx hb hX hbl hbA hS (by unfold vp_in; decide) dL_law_895 ?_
  refine r_topi (v := xs 3) (congrArg xs (by decide)) ?_
  refine lv_aload_n hx hb dL_law_896 rfl (lv_at hl 3 rfl) ?_
  have hPc : va_P D vwCl [(o1, .inl (g 1, 1, .inr (.inl (fun _ => 0)))), ((a 0), f_x a), ((a 3), f_rows a)] _ := hP.sub (ws' := [(o1, .inl (g 1, 1, .inr (.inl (fun _ => 0)))), ((a 0), f_x a), ((a 3), f_rows a)]) [4, 0, 1] rfl
  have hDc : va_D (fun q => z0 ≤ q) [(o1, .inl (g 1, 1, .inr (.inl (fun _ => 0)))), ((a 0), f_x a), ((a 3), f_rows a)] := (hD.to hAz).pick (ws' := [(o1, .inl (g 1, 1, .inr (.inl (fun _ => 0)))), ((a 0), f_x a), ((a 3), f_rows a)]) [4, 0, 1] (by decide) rfl
  have hFc := va_free (wc := [(o1, .inl (g 1, 1, .inr (.inl (fun _ => 0)))), ((a 0), f_x a), ((a 3), f_rows a)]) hD hS hA [4, 0, 1] rfl
  refine va_calli (vx_runSW (As := [.ref (a 0), .int (xs 1), .int (xs 2), .int (xs 3), .ref o1]) (rest := []) ⟨hx, hb, hml, hown, ht⟩ (k_L_faulty l hfl D g z0 _ a (xs 1) (xs 2) (xs 3) o1) (vx_cwSW 5 ht (gS w_832 w_834 w_767 w_833) rfl rfl rfl (by decide +kernel) (le2 rfl rfl)) ⟨PP.blind, PP.mk' hK hZ hz hAz hS hPc hDc⟩ rfl rfl hl.1 rfl (lv_room (Nat.le_of_ble_eq_true rfl)) dL_law_897 (le2 rfl rfl)) hS (fun q _ h => hFc q h) hFc (fun r u t H locs ht1 hvm hw hB hz1 hk1 hS => ?_)
  obtain ⟨rfl, hw⟩ := hw
  obtain ⟨hP1, hD1⟩ := hB
  rw [ht1] at hP1
  obtain ⟨hP, hD⟩ := va_join (wr := [((a 200), f_m a g), ((a 206), .inr (5, [.int 0, .ref (g 100), .int 0]))]) (w1 := [(o1, .inl (g 1, 1, .inr (.inl (fun _ => 0))))]) hP hD [4, 0, 1] [2, 3] rfl rfl (by decide) (by decide) hk1 hFc hP1 hD1
  have hP : va_P D vwCl [((a 200), f_m a g), ((a 206), .inr (5, [.int 0, .ref (g 100), .int 0])), (o1, .inl (g 1, 1, .inr (.inl (fun _ => 0))))] H := hP
  have hD : va_D (va_A [] s.heap.size) [((a 200), f_m a g), ((a 206), .inr (5, [.int 0, .ref (g 100), .int 0])), (o1, .inl (g 1, 1, .inr (.inl (fun _ => 0))))] := hD
  refine lv_istore (lv' := [(6, .int 1), (0, .ref b), (1, .ref (a 0)), (2, .ref (a 200)), (3, .ref o1), (4, .ref o2), (5, .int 0)]) hx hb dL_law_900 hl (by decide) rfl (fun ls hl => ?_)
  refine lv_aload_n hx hb dL_law_902 rfl (lv_at hl 3 rfl) ?_
  refine lv_aload_n hx hb dL_law_903 rfl (lv_at hl 1 rfl) ?_
  refine lv_iload hx hb dL_law_904 (lv_at hl 6 rfl) ?_
  refine lv_iconst (v := 1) hx hb dL_law_906 (by decide) ?_
  refine lv_iadd hx hb dL_law_907 ?_
  refine r_topi (v := 1) (by decide) ?_
  refine va_sld hx hb hX hbl hbA hS (by unfold vp_in; decide) dL_law_908 ?_
  refine r_topi (v := xs 1) (congrArg xs (by decide)) ?_
  refine lv_aload_n hx hb dL_law_909 rfl (lv_at hl 1 rfl) ?_
  refine lv_iload hx hb dL_law_910 (lv_at hl 6 rfl) ?_
  refine lv_iconst (v := 2) hx hb dL_law_912 (by decide) ?_
  refine lv_iadd hx hb dL_law_913 ?_
  refine r_topi (v := 2) (by decide) ?_
  refine va_sld hx hb hX hbl hbA hS (by unfold vp_in; decide) dL_law_914 ?_
  refine r_topi (v := xs 2) (congrArg xs (by decide)) ?_
  refine lv_aload_n hx hb dL_law_915 rfl (lv_at hl 1 rfl) ?_
  refine lv_iload hx hb dL_law_916 (lv_at hl 6 rfl) ?_
  refine lv_iconst (v := 3) hx hb dL_law_918 (by decide) ?_
  refine lv_iadd hx hb dL_law_919 ?_
  refine r_topi (v := 3) (by decide) ?_
  refine va_sld hx hb hX hbl hbA hS (by unfold vp_in; decide) dL_law_920 ?_
  refine r_topi (v := xs 3) (congrArg xs (by decide)) ?_
  have hPc : va_P D vwCl [((a 200), f_m a g), ((a 206), .inr (5, [.int 0, .ref (g 100), .int 0]))] _ := hP.sub (ws' := [((a 200), f_m a g), ((a 206), .inr (5, [.int 0, .ref (g 100), .int 0]))]) [0, 1] rfl
  have hDc : va_D (fun q => z0 ≤ q) [((a 200), f_m a g), ((a 206), .inr (5, [.int 0, .ref (g 100), .int 0]))] := (hD.to hAz).pick (ws' := [((a 200), f_m a g), ((a 206), .inr (5, [.int 0, .ref (g 100), .int 0]))]) [0, 1] (by decide) rfl
  have hFc := va_free (wc := [((a 200), f_m a g), ((a 206), .inr (5, [.int 0, .ref (g 100), .int 0]))]) hD hS hA [0, 1] rfl
  refine va_calli (va_runV (As := [.int (xs 1), .int (xs 2), .int (xs 3)]) (rest := []) ⟨hx, hb, hml, hown, ht⟩ (k_X15_faulty l D g z0 _ a (xs 1) (xs 2) (xs 3)) (cwV 3 ht (gV w_835 w_837 w_838 w_334 w_836) rfl rfl rfl (by decide +kernel) (le2 rfl rfl)) ⟨PP.blind, va_recv hK.1 hP (ci := 21) (q0 := 0) rfl rfl, PP.mk' hK hZ hz hAz hS hPc hDc⟩ rfl rfl hl.1 rfl (lv_room (Nat.le_of_ble_eq_true rfl)) dL_law_921 (le2 rfl rfl)) hS (fun q _ h => hFc q h) hFc (fun r u t H locs ht1 hvm hw hB hz1 hk1 hS => ?_)
  obtain ⟨rfl, hw⟩ := hw
  obtain ⟨hP1, hD1⟩ := hB
  rw [ht1] at hP1
  obtain ⟨hP, hD⟩ := va_join (wr := [(o1, .inl (g 1, 1, .inr (.inl (fun _ => 0))))]) (w1 := [((a 200), .inr (21, [.int 1, .ref (a 201), .ref (a 202), .ref (a 203), .ref (a 204), .ref (a 205), .ref (a 206), .int 0, .int 0, .int 0, .int 0, .ref (a 208), .ref (a 209), .ref (a 210), .ref (a 211), .ref (a 212), .int 4, .int 12, .int (-1), .int 0, .ref (g 200), .ref (a 213), .int 0, .int 97, .ref (a 214), .ref (a 215), .ref (a 207), .null, .int 0]))]) hP hD [0, 1] [2] rfl rfl (by decide) (by decide) hk1 hFc hP1 hD1
  have hP : va_P D vwCl [(o1, .inl (g 1, 1, .inr (.inl (fun _ => 0)))), ((a 200), .inr (21, [.int 1, .ref (a 201), .ref (a 202), .ref (a 203), .ref (a 204), .ref (a 205), .ref (a 206), .int 0, .int 0, .int 0, .int 0, .ref (a 208), .ref (a 209), .ref (a 210), .ref (a 211), .ref (a 212), .int 4, .int 12, .int (-1), .int 0, .ref (g 200), .ref (a 213), .int 0, .int 97, .ref (a 214), .ref (a 215), .ref (a 207), .null, .int 0]))] H := hP
  have hD : va_D (va_A [] s.heap.size) [(o1, .inl (g 1, 1, .inr (.inl (fun _ => 0)))), ((a 200), .inr (21, [.int 1, .ref (a 201), .ref (a 202), .ref (a 203), .ref (a 204), .ref (a 205), .ref (a 206), .int 0, .int 0, .int 0, .int 0, .ref (a 208), .ref (a 209), .ref (a 210), .ref (a 211), .ref (a 212), .int 4, .int 12, .int (-1), .int 0, .ref (g 200), .ref (a 213), .int 0, .int 97, .ref (a 214), .ref (a 215), .ref (a 207), .null, .int 0]))] := hD
  refine lv_istore (lv' := [(7, .int 0), (6, .int 1), (0, .ref b), (1, .ref (a 0)), (2, .ref (a 200)), (3, .ref o1), (4, .ref o2), (5, .int 0)]) hx hb dL_law_924 hl (by decide) rfl (fun ls hl => ?_)
  refine lv_aload_n hx hb dL_law_926 rfl (lv_at hl 4 rfl) ?_
  have hPc : va_P D vwCl [((a 200), .inr (21, [.int 1, .ref (a 201), .ref (a 202), .ref (a 203), .ref (a 204), .ref (a 205), .ref (a 206), .int 0, .int 0, .int 0, .int 0, .ref (a 208), .ref (a 209), .ref (a 210), .ref (a 211), .ref (a 212), .int 4, .int 12, .int (-1), .int 0, .ref (g 200), .ref (a 213), .int 0, .int 97, .ref (a 214), .ref (a 215), .ref (a 207), .null, .int 0]))] _ := hP.sub (ws' := [((a 200), .inr (21, [.int 1, .ref (a 201), .ref (a 202), .ref (a 203), .ref (a 204), .ref (a 205), .ref (a 206), .int 0, .int 0, .int 0, .int 0, .ref (a 208), .ref (a 209), .ref (a 210), .ref (a 211), .ref (a 212), .int 4, .int 12, .int (-1), .int 0, .ref (g 200), .ref (a 213), .int 0, .int 97, .ref (a 214), .ref (a 215), .ref (a 207), .null, .int 0]))]) [1] rfl
  have hDc : va_D (fun q => z0 ≤ q) [((a 200), .inr (21, [.int 1, .ref (a 201), .ref (a 202), .ref (a 203), .ref (a 204), .ref (a 205), .ref (a 206), .int 0, .int 0, .int 0, .int 0, .ref (a 208), .ref (a 209), .ref (a 210), .ref (a 211), .ref (a 212), .int 4, .int 12, .int (-1), .int 0, .ref (g 200), .ref (a 213), .int 0, .int 97, .ref (a 214), .ref (a 215), .ref (a 207), .null, .int 0]))] := (hD.to hAz).pick (ws' := [((a 200), .inr (21, [.int 1, .ref (a 201), .ref (a 202), .ref (a 203), .ref (a 204), .ref (a 205), .ref (a 206), .int 0, .int 0, .int 0, .int 0, .ref (a 208), .ref (a 209), .ref (a 210), .ref (a 211), .ref (a 212), .int 4, .int 12, .int (-1), .int 0, .ref (g 200), .ref (a 213), .int 0, .int 97, .ref (a 214), .ref (a 215), .ref (a 207), .null, .int 0]))]) [1] (by decide) rfl
  have hFc := va_free (wc := [((a 200), .inr (21, [.int 1, .ref (a 201), .ref (a 202), .ref (a 203), .ref (a 204), .ref (a 205), .ref (a 206), .int 0, .int 0, .int 0, .int 0, .ref (a 208), .ref (a 209), .ref (a 210), .ref (a 211), .ref (a 212), .int 4, .int 12, .int (-1), .int 0, .ref (g 200), .ref (a 213), .int 0, .int 97, .ref (a 214), .ref (a 215), .ref (a 207), .null, .int 0]))]) hD hS hA [1] rfl
  refine va_calli (va_runV (As := []) (rest := []) ⟨hx, hb, hml, hown, ht⟩ (k_X15_thrown_v2 l D g z0 _ a) (cwV 0 ht (gV w_772 w_774 w_775 w_334 w_773) rfl rfl rfl (by decide +kernel) (le2 rfl rfl)) ⟨PP.blind, va_recv hK.1 hP (ci := 21) (q0 := 1) rfl rfl, PP.mk' hK hZ hz hAz hS hPc hDc⟩ rfl rfl hl.1 rfl (lv_room (Nat.le_of_ble_eq_true rfl)) dL_law_927 (le2 rfl rfl)) hS (fun q _ h => hFc q h) hFc (fun r u t H locs ht1 hvm hw hB hz1 hk1 hS => ?_)
  obtain ⟨rfl, hw⟩ := hw
  obtain ⟨hP1, hD1⟩ := hB
  rw [ht1] at hP1
  obtain ⟨hP, hD⟩ := va_join (wr := [(o1, .inl (g 1, 1, .inr (.inl (fun _ => 0))))]) (w1 := [((a 200), .inr (21, [.int 1, .ref (a 201), .ref (a 202), .ref (a 203), .ref (a 204), .ref (a 205), .ref (a 206), .int 0, .int 0, .int 0, .int 0, .ref (a 208), .ref (a 209), .ref (a 210), .ref (a 211), .ref (a 212), .int 4, .int 12, .int (-1), .int 0, .ref (g 200), .ref (a 213), .int 0, .int 97, .ref (a 214), .ref (a 215), .ref (a 207), .null, .int 0]))]) hP hD [1] [0] rfl rfl (by decide) (by decide) hk1 hFc hP1 hD1
  have hP : va_P D vwCl [(o1, .inl (g 1, 1, .inr (.inl (fun _ => 0)))), ((a 200), .inr (21, [.int 1, .ref (a 201), .ref (a 202), .ref (a 203), .ref (a 204), .ref (a 205), .ref (a 206), .int 0, .int 0, .int 0, .int 0, .ref (a 208), .ref (a 209), .ref (a 210), .ref (a 211), .ref (a 212), .int 4, .int 12, .int (-1), .int 0, .ref (g 200), .ref (a 213), .int 0, .int 97, .ref (a 214), .ref (a 215), .ref (a 207), .null, .int 0]))] H := hP
  have hD : va_D (va_A [] s.heap.size) [(o1, .inl (g 1, 1, .inr (.inl (fun _ => 0)))), ((a 200), .inr (21, [.int 1, .ref (a 201), .ref (a 202), .ref (a 203), .ref (a 204), .ref (a 205), .ref (a 206), .int 0, .int 0, .int 0, .int 0, .ref (a 208), .ref (a 209), .ref (a 210), .ref (a 211), .ref (a 212), .int 4, .int 12, .int (-1), .int 0, .ref (g 200), .ref (a 213), .int 0, .int 97, .ref (a 214), .ref (a 215), .ref (a 207), .null, .int 0]))] := hD
  refine lv_iload hx hb dL_law_930 (lv_at hl 1 rfl) ?_
  refine lv_icmp_eq (tgt := 937) hx hb dL_law_932 (by decide) (fun c_1 => ?_) (fun c_1 => ?_)
  · refine lv_iload hx hb dL_law_937 (lv_at hl 1 rfl) ?_
    refine lv_if_ne (tgt := 954) hx hb dL_law_939 (by decide) (fun c_2 => ?_) (fun c_2 => ?_)
    · refine lv_goto (tgt := 4264) hx hb dL_law_954 (by decide) ?_
      refine W.widen (k := 200 + 300) (n := 8000 + 2000) (Nat.le_of_ble_eq_true rfl) (Nat.le_of_ble_eq_true rfl) ?_
      exact kk _ _ _ hS (lv_sub hl [7, 2] rfl)
    · exact absurd c_2 (by decide)
  · exact absurd c_1 (by decide)
set_option maxHeartbeats 4000000 in
set_option maxRecDepth 100000 in
theorem lw_case_10 {p : Program} {l : Launch} {e : Env} {s : State} {m : MethodId} {below : List Frame} {meth : Method} {c : Code} {H : Heap} {locs : List Loc} {ls : Array Slot} {Q : State → Prop} {D : va_G} {g : Nat → ClassId} {z0 b : Nat} {xs : Nat → Int32} {a : Nat → Nat} {o1 o2 : Nat} (hfl : l.stackTraces = false) (hx : p.tables.exec = Jvm.exec) (hb : c.code = cL_law) (hml : c.maxLocals = 9) (hown : s.vm.findClass RL = some m.cls) (ht : ∀ w ∈ TG, w.before #[Value.ref b] s = true) (hX : va_X b 6 xs s s.heap) (hbl : b < s.heap.size) (hbA : ¬ va_A [] s.heap.size b) (hK : KK D g s) (hZ : ZZ g z0 s) (hz : z0 ≤ s.heap.size) (hAz : ∀ q, va_A [] s.heap.size q → z0 ≤ q) (hP : va_P D vwCl (lwW a g o1 o2) H) (hD : va_D (va_A [] s.heap.size) (lwW a g o1 o2)) (hS : va_S (va_A [] s.heap.size) s.heap H locs) (hl : lv_has ls 9 [(0, .ref b), (1, .ref (a 0)), (2, .ref (a 200)), (3, .ref o1), (4, .ref o2), (5, .int 0)])
    (kk : ∀ (H : Heap) (locs : List Loc) (ls : Array Slot), va_S (va_A [] s.heap.size) s.heap H locs → lv_has ls 9 [(5, .int 0), (0, .ref b)] → W p l e room_1 s m #[Value.ref b] below meth c H locs (200 + 300) (8000 + 2000) Q (F0 m 4264 ls [])) :
    W p l e room_1 s m #[Value.ref b] below meth c H locs 200 8000 Q (F0 m 957 ls []) := by
  have hA : ∀ q : Nat, s.heap.size ≤ q → va_A [] s.heap.size q := Anw
  have hP := hP.sub (ws' := [((a 0), f_x a), ((a 2), f_book a), ((a 200), f_m a g), ((a 204), .inr (5, [.int 0, .ref (g 100), .int 0]))]) [0, 6, 26, 30] rfl
  have hD := hD.sub (ws' := [((a 0), f_x a), ((a 2), f_book a), ((a 200), f_m a g), ((a 204), .inr (5, [.int 0, .ref (g 100), .int 0]))]) [0, 6, 26, 30] (by decide) rfl
  refine lv_aload_n hx hb dL_law_957 rfl (lv_at hl 1 rfl) ?_
  have hPc : va_P D vwCl [((a 0), f_x a), ((a 2), f_book a)] _ := hP.sub (ws' := [((a 0), f_x a), ((a 2), f_book a)]) [0, 1] rfl
  have hDc : va_D (fun q => z0 ≤ q) [((a 0), f_x a), ((a 2), f_book a)] := (hD.to hAz).pick (ws' := [((a 0), f_x a), ((a 2), f_book a)]) [0, 1] (by decide) rfl
  have hFc := AnA (ws := []) hS.1
  refine va_calli (va_runV (As := []) (rest := []) ⟨hx, hb, hml, hown, ht⟩ (k_X11_faults l D g z0 _ a) (cwV 0 ht (gV w_839 w_841 w_842 w_31 w_840) rfl rfl rfl (by decide +kernel) (le2 rfl rfl)) ⟨PP.blind, va_recv hK.1 hP (ci := 17) (q0 := 0) rfl rfl, PP.mk' hK hZ hz hAz hS hPc hDc⟩ rfl rfl hl.1 rfl (lv_room (Nat.le_of_ble_eq_true rfl)) dL_law_958 (le2 rfl rfl)) hS (fun q _ h => hFc q h) hFc (fun r u t H locs ht1 hvm hw hB hz1 hk1 hS => ?_)
  obtain ⟨rfl, hw⟩ := hw
  have hP := ro1 hP hk1
  refine lv_aload_n hx hb dL_law_961 rfl (lv_at hl 2 rfl) ?_
  have hPc : va_P D vwCl [((a 200), f_m a g), ((a 204), .inr (5, [.int 0, .ref (g 100), .int 0]))] _ := hP.sub (ws' := [((a 200), f_m a g), ((a 204), .inr (5, [.int 0, .ref (g 100), .int 0]))]) [2, 3] rfl
  have hDc : va_D (fun q => z0 ≤ q) [((a 200), f_m a g), ((a 204), .inr (5, [.int 0, .ref (g 100), .int 0]))] := (hD.to hAz).pick (ws' := [((a 200), f_m a g), ((a 204), .inr (5, [.int 0, .ref (g 100), .int 0]))]) [2, 3] (by decide) rfl
  have hFc := va_free (wc := [((a 200), f_m a g), ((a 204), .inr (5, [.int 0, .ref (g 100), .int 0]))]) hD hS hA [2, 3] rfl
  refine va_calli (va_runV (As := []) (rest := [.int 0]) ⟨hx, hb, hml, hown, ht⟩ (k_X15_faults l D g z0 _ a) (cwV 0 ht (gV w_843 w_845 w_846 w_334 w_844) rfl rfl rfl (by decide +kernel) (le2 rfl rfl)) ⟨PP.blind, va_recv hK.1 hP (ci := 21) (q0 := 2) rfl rfl, PP.mk' hK hZ hz hAz hS hPc hDc⟩ rfl rfl hl.1 rfl (lv_room (Nat.le_of_ble_eq_true rfl)) dL_law_962 (le2 rfl rfl)) hS (fun q _ h => hFc q h) hFc (fun r u t H locs ht1 hvm hw hB hz1 hk1 hS => ?_)
  obtain ⟨rfl, hw⟩ := hw
  obtain ⟨hP1, hD1⟩ := hB
  rw [ht1] at hP1
  obtain ⟨hP, hD⟩ := va_join (wr := [((a 0), f_x a), ((a 2), f_book a)]) (w1 := [((a 200), f_m a g)]) hP hD [2, 3] [0, 1] rfl rfl (by decide) (by decide) hk1 hFc hP1 hD1
  have hP : va_P D vwCl [((a 0), f_x a), ((a 2), f_book a), ((a 200), f_m a g)] H := hP
  have hD : va_D (va_A [] s.heap.size) [((a 0), f_x a), ((a 2), f_book a), ((a 200), f_m a g)] := hD
  refine lv_icmp_eq (tgt := 4264) hx hb dL_law_965 (by decide) (fun c_1 => ?_) (fun c_1 => ?_)
  · refine W.widen (k := 200 + 300) (n := 8000 + 2000) (Nat.le_of_ble_eq_true rfl) (Nat.le_of_ble_eq_true rfl) ?_
    exact kk _ _ _ hS (lv_sub hl [5, 0] rfl)
  · exact absurd c_1 (by decide)
set_option maxHeartbeats 4000000 in
set_option maxRecDepth 100000 in
theorem lw_case_11 {p : Program} {l : Launch} {e : Env} {s : State} {m : MethodId} {below : List Frame} {meth : Method} {c : Code} {H : Heap} {locs : List Loc} {ls : Array Slot} {Q : State → Prop} {D : va_G} {g : Nat → ClassId} {z0 b : Nat} {xs : Nat → Int32} {a : Nat → Nat} {o1 o2 : Nat} (hfl : l.stackTraces = false) (hx : p.tables.exec = Jvm.exec) (hb : c.code = cL_law) (hml : c.maxLocals = 9) (hown : s.vm.findClass RL = some m.cls) (ht : ∀ w ∈ TG, w.before #[Value.ref b] s = true) (hX : va_X b 6 xs s s.heap) (hbl : b < s.heap.size) (hbA : ¬ va_A [] s.heap.size b) (hK : KK D g s) (hZ : ZZ g z0 s) (hz : z0 ≤ s.heap.size) (hAz : ∀ q, va_A [] s.heap.size q → z0 ≤ q) (hP : va_P D vwCl (lwW a g o1 o2) H) (hD : va_D (va_A [] s.heap.size) (lwW a g o1 o2)) (hS : va_S (va_A [] s.heap.size) s.heap H locs) (hl : lv_has ls 9 [(0, .ref b), (1, .ref (a 0)), (2, .ref (a 200)), (3, .ref o1), (4, .ref o2), (5, .int 0)])
    (kk : ∀ (H : Heap) (locs : List Loc) (ls : Array Slot), va_S (va_A [] s.heap.size) s.heap H locs → lv_has ls 9 [(5, .int 0), (0, .ref b)] → W p l e room_1 s m #[Value.ref b] below meth c H locs (200 + 300) (8000 + 2000) Q (F0 m 4264 ls [])) :
    W p l e room_1 s m #[Value.ref b] below meth c H locs 200 8000 Q (F0 m 970 ls []) := by
  have hA : ∀ q : Nat, s.heap.size ≤ q → va_A [] s.heap.size q := Anw
  have hP := hP.sub (ws' := [((a 0), f_x a), ((a 2), f_book a), ((a 200), f_m a g), ((a 204), .inr (5, [.int 0, .ref (g 100), .int 0])), (o1, .inl (g 1, 1, .inr (.inl (fun _ => 0))))]) [0, 6, 26, 30, 61] rfl
  have hD := hD.sub (ws' := [((a 0), f_x a), ((a 2), f_book a), ((a 200), f_m a g), ((a 204), .inr (5, [.int 0, .ref (g 100), .int 0])), (o1, .inl (g 1, 1, .inr (.inl (fun _ => 0))))]) [0, 6, 26, 30, 61] (by decide) rfl
  refine lv_aload_n hx hb dL_law_970 rfl (lv_at hl 1 rfl) ?_
  refine lv_aload_n hx hb dL_law_971 rfl (lv_at hl 0 rfl) ?_
  refine lv_iload hx hb dL_law_972 (lv_at hl 5 rfl) ?_
  refine lv_iconst (v := 1) hx hb dL_law_974 (by decide) ?_
  refine lv_iadd hx hb dL_law_975 ?_
  refine r_topi (v := 1) (by decide) ?_
  refine va_sld hx hb hX hbl hbA hS (by unfold vp_in; decide) dL_law_976 ?_
  refine r_topi (v := xs 1) (congrArg xs (by decide)) ?_
  refine lv_aload_n hx hb dL_law_977 rfl (lv_at hl 3 rfl) ?_
  have hPc : va_P D vwCl [(o1, .inl (g 1, 1, .inr (.inl (fun _ => 0)))), ((a 0), f_x a), ((a 2), f_book a)] _ := hP.sub (ws' := [(o1, .inl (g 1, 1, .inr (.inl (fun _ => 0)))), ((a 0), f_x a), ((a 2), f_book a)]) [4, 0, 1] rfl
  have hDc : va_D (fun q => z0 ≤ q) [(o1, .inl (g 1, 1, .inr (.inl (fun _ => 0)))), ((a 0), f_x a), ((a 2), f_book a)] := (hD.to hAz).pick (ws' := [(o1, .inl (g 1, 1, .inr (.inl (fun _ => 0)))), ((a 0), f_x a), ((a 2), f_book a)]) [4, 0, 1] (by decide) rfl
  have hFc := va_free (wc := [(o1, .inl (g 1, 1, .inr (.inl (fun _ => 0)))), ((a 0), f_x a), ((a 2), f_book a)]) hD hS hA [4, 0, 1] rfl
  refine va_calli (vx_runSW (As := [.ref (a 0), .int (xs 1), .ref o1]) (rest := []) ⟨hx, hb, hml, hown, ht⟩ (k_L_lineOf l hfl D g z0 _ a (xs 1) o1) (vx_cwSW 3 ht (gS w_847 w_849 w_767 w_848) rfl rfl rfl (by decide +kernel) (le2 rfl rfl)) ⟨PP.blind, PP.mk' hK hZ hz hAz hS hPc hDc⟩ rfl rfl hl.1 rfl (lv_room (Nat.le_of_ble_eq_true rfl)) dL_law_978 (le2 rfl rfl)) hS (fun q _ h => hFc q h) hFc (fun r u t H locs ht1 hvm hw hB hz1 hk1 hS => ?_)
  obtain ⟨rfl, hw⟩ := hw
  obtain ⟨hP1, hD1⟩ := hB
  rw [ht1] at hP1
  obtain ⟨hP, hD⟩ := va_join (wr := [((a 200), f_m a g), ((a 204), .inr (5, [.int 0, .ref (g 100), .int 0]))]) (w1 := [(o1, .inl (g 1, 1, .inr (.inl (fun _ => 0))))]) hP hD [4, 0, 1] [2, 3] rfl rfl (by decide) (by decide) hk1 hFc hP1 hD1
  have hP : va_P D vwCl [((a 200), f_m a g), ((a 204), .inr (5, [.int 0, .ref (g 100), .int 0])), (o1, .inl (g 1, 1, .inr (.inl (fun _ => 0))))] H := hP
  have hD : va_D (va_A [] s.heap.size) [((a 200), f_m a g), ((a 204), .inr (5, [.int 0, .ref (g 100), .int 0])), (o1, .inl (g 1, 1, .inr (.inl (fun _ => 0))))] := hD
  refine lv_istore (lv' := [(6, .int 1), (0, .ref b), (1, .ref (a 0)), (2, .ref (a 200)), (3, .ref o1), (4, .ref o2), (5, .int 0)]) hx hb dL_law_981 hl (by decide) rfl (fun ls hl => ?_)
  refine lv_aload_n hx hb dL_law_983 rfl (lv_at hl 3 rfl) ?_
  refine lv_aload_n hx hb dL_law_984 rfl (lv_at hl 1 rfl) ?_
  refine lv_iload hx hb dL_law_985 (lv_at hl 6 rfl) ?_
  refine lv_iconst (v := 1) hx hb dL_law_987 (by decide) ?_
  refine lv_iadd hx hb dL_law_988 ?_
  refine r_topi (v := 1) (by decide) ?_
  refine va_sld hx hb hX hbl hbA hS (by unfold vp_in; decide) dL_law_989 ?_
  refine r_topi (v := xs 1) (congrArg xs (by decide)) ?_
  have hPc : va_P D vwCl [((a 200), f_m a g), ((a 204), .inr (5, [.int 0, .ref (g 100), .int 0]))] _ := hP.sub (ws' := [((a 200), f_m a g), ((a 204), .inr (5, [.int 0, .ref (g 100), .int 0]))]) [0, 1] rfl
  have hDc : va_D (fun q => z0 ≤ q) [((a 200), f_m a g), ((a 204), .inr (5, [.int 0, .ref (g 100), .int 0]))] := (hD.to hAz).pick (ws' := [((a 200), f_m a g), ((a 204), .inr (5, [.int 0, .ref (g 100), .int 0]))]) [0, 1] (by decide) rfl
  have hFc := va_free (wc := [((a 200), f_m a g), ((a 204), .inr (5, [.int 0, .ref (g 100), .int 0]))]) hD hS hA [0, 1] rfl
  refine va_calli (va_runV (As := [.int (xs 1)]) (rest := []) ⟨hx, hb, hml, hown, ht⟩ (k_X15_lineOf l D g z0 _ a (xs 1)) (cwV 1 ht (gV w_850 w_852 w_853 w_334 w_851) rfl rfl rfl (by decide +kernel) (le2 rfl rfl)) ⟨PP.blind, va_recv hK.1 hP (ci := 21) (q0 := 0) rfl rfl, PP.mk' hK hZ hz hAz hS hPc hDc⟩ rfl rfl hl.1 rfl (lv_room (Nat.le_of_ble_eq_true rfl)) dL_law_990 (le2 rfl rfl)) hS (fun q _ h => hFc q h) hFc (fun r u t H locs ht1 hvm hw hB hz1 hk1 hS => ?_)
  obtain ⟨rfl, hw⟩ := hw
  obtain ⟨hP1, hD1⟩ := hB
  rw [ht1] at hP1
  obtain ⟨hP, hD⟩ := va_join (wr := [(o1, .inl (g 1, 1, .inr (.inl (fun _ => 0))))]) (w1 := [((a 200), .inr (21, [.int 1, .ref (a 201), .ref (a 202), .ref (a 203), .ref (a 204), .ref (a 205), .ref (a 206), .int 0, .int 0, .int 0, .int 0, .ref (a 208), .ref (a 209), .ref (a 210), .ref (a 211), .ref (a 212), .int 4, .int 12, .int (-1), .int 0, .ref (g 200), .ref (a 213), .int 0, .int 97, .ref (a 214), .ref (a 215), .ref (a 207), .null, .int 0]))]) hP hD [0, 1] [2] rfl rfl (by decide) (by decide) hk1 hFc hP1 hD1
  have hP : va_P D vwCl [(o1, .inl (g 1, 1, .inr (.inl (fun _ => 0)))), ((a 200), .inr (21, [.int 1, .ref (a 201), .ref (a 202), .ref (a 203), .ref (a 204), .ref (a 205), .ref (a 206), .int 0, .int 0, .int 0, .int 0, .ref (a 208), .ref (a 209), .ref (a 210), .ref (a 211), .ref (a 212), .int 4, .int 12, .int (-1), .int 0, .ref (g 200), .ref (a 213), .int 0, .int 97, .ref (a 214), .ref (a 215), .ref (a 207), .null, .int 0]))] H := hP
  have hD : va_D (va_A [] s.heap.size) [(o1, .inl (g 1, 1, .inr (.inl (fun _ => 0)))), ((a 200), .inr (21, [.int 1, .ref (a 201), .ref (a 202), .ref (a 203), .ref (a 204), .ref (a 205), .ref (a 206), .int 0, .int 0, .int 0, .int 0, .ref (a 208), .ref (a 209), .ref (a 210), .ref (a 211), .ref (a 212), .int 4, .int 12, .int (-1), .int 0, .ref (g 200), .ref (a 213), .int 0, .int 97, .ref (a 214), .ref (a 215), .ref (a 207), .null, .int 0]))] := hD
  refine lv_istore (lv' := [(7, .int 0), (6, .int 1), (0, .ref b), (1, .ref (a 0)), (2, .ref (a 200)), (3, .ref o1), (4, .ref o2), (5, .int 0)]) hx hb dL_law_993 hl (by decide) rfl (fun ls hl => ?_)
  refine lv_aload_n hx hb dL_law_995 rfl (lv_at hl 4 rfl) ?_
  have hPc : va_P D vwCl [((a 200), .inr (21, [.int 1, .ref (a 201), .ref (a 202), .ref (a 203), .ref (a 204), .ref (a 205), .ref (a 206), .int 0, .int 0, .int 0, .int 0, .ref (a 208), .ref (a 209), .ref (a 210), .ref (a 211), .ref (a 212), .int 4, .int 12, .int (-1), .int 0, .ref (g 200), .ref (a 213), .int 0, .int 97, .ref (a 214), .ref (a 215), .ref (a 207), .null, .int 0]))] _ := hP.sub (ws' := [((a 200), .inr (21, [.int 1, .ref (a 201), .ref (a 202), .ref (a 203), .ref (a 204), .ref (a 205), .ref (a 206), .int 0, .int 0, .int 0, .int 0, .ref (a 208), .ref (a 209), .ref (a 210), .ref (a 211), .ref (a 212), .int 4, .int 12, .int (-1), .int 0, .ref (g 200), .ref (a 213), .int 0, .int 97, .ref (a 214), .ref (a 215), .ref (a 207), .null, .int 0]))]) [1] rfl
  have hDc : va_D (fun q => z0 ≤ q) [((a 200), .inr (21, [.int 1, .ref (a 201), .ref (a 202), .ref (a 203), .ref (a 204), .ref (a 205), .ref (a 206), .int 0, .int 0, .int 0, .int 0, .ref (a 208), .ref (a 209), .ref (a 210), .ref (a 211), .ref (a 212), .int 4, .int 12, .int (-1), .int 0, .ref (g 200), .ref (a 213), .int 0, .int 97, .ref (a 214), .ref (a 215), .ref (a 207), .null, .int 0]))] := (hD.to hAz).pick (ws' := [((a 200), .inr (21, [.int 1, .ref (a 201), .ref (a 202), .ref (a 203), .ref (a 204), .ref (a 205), .ref (a 206), .int 0, .int 0, .int 0, .int 0, .ref (a 208), .ref (a 209), .ref (a 210), .ref (a 211), .ref (a 212), .int 4, .int 12, .int (-1), .int 0, .ref (g 200), .ref (a 213), .int 0, .int 97, .ref (a 214), .ref (a 215), .ref (a 207), .null, .int 0]))]) [1] (by decide) rfl
  have hFc := va_free (wc := [((a 200), .inr (21, [.int 1, .ref (a 201), .ref (a 202), .ref (a 203), .ref (a 204), .ref (a 205), .ref (a 206), .int 0, .int 0, .int 0, .int 0, .ref (a 208), .ref (a 209), .ref (a 210), .ref (a 211), .ref (a 212), .int 4, .int 12, .int (-1), .int 0, .ref (g 200), .ref (a 213), .int 0, .int 97, .ref (a 214), .ref (a 215), .ref (a 207), .null, .int 0]))]) hD hS hA [1] rfl
  refine va_calli (va_runV (As := []) (rest := []) ⟨hx, hb, hml, hown, ht⟩ (k_X15_thrown_v2 l D g z0 _ a) (cwV 0 ht (gV w_772 w_774 w_775 w_334 w_773) rfl rfl rfl (by decide +kernel) (le2 rfl rfl)) ⟨PP.blind, va_recv hK.1 hP (ci := 21) (q0 := 1) rfl rfl, PP.mk' hK hZ hz hAz hS hPc hDc⟩ rfl rfl hl.1 rfl (lv_room (Nat.le_of_ble_eq_true rfl)) dL_law_996 (le2 rfl rfl)) hS (fun q _ h => hFc q h) hFc (fun r u t H locs ht1 hvm hw hB hz1 hk1 hS => ?_)
  obtain ⟨rfl, hw⟩ := hw
  obtain ⟨hP1, hD1⟩ := hB
  rw [ht1] at hP1
  obtain ⟨hP, hD⟩ := va_join (wr := [(o1, .inl (g 1, 1, .inr (.inl (fun _ => 0))))]) (w1 := [((a 200), .inr (21, [.int 1, .ref (a 201), .ref (a 202), .ref (a 203), .ref (a 204), .ref (a 205), .ref (a 206), .int 0, .int 0, .int 0, .int 0, .ref (a 208), .ref (a 209), .ref (a 210), .ref (a 211), .ref (a 212), .int 4, .int 12, .int (-1), .int 0, .ref (g 200), .ref (a 213), .int 0, .int 97, .ref (a 214), .ref (a 215), .ref (a 207), .null, .int 0]))]) hP hD [1] [0] rfl rfl (by decide) (by decide) hk1 hFc hP1 hD1
  have hP : va_P D vwCl [(o1, .inl (g 1, 1, .inr (.inl (fun _ => 0)))), ((a 200), .inr (21, [.int 1, .ref (a 201), .ref (a 202), .ref (a 203), .ref (a 204), .ref (a 205), .ref (a 206), .int 0, .int 0, .int 0, .int 0, .ref (a 208), .ref (a 209), .ref (a 210), .ref (a 211), .ref (a 212), .int 4, .int 12, .int (-1), .int 0, .ref (g 200), .ref (a 213), .int 0, .int 97, .ref (a 214), .ref (a 215), .ref (a 207), .null, .int 0]))] H := hP
  have hD : va_D (va_A [] s.heap.size) [(o1, .inl (g 1, 1, .inr (.inl (fun _ => 0)))), ((a 200), .inr (21, [.int 1, .ref (a 201), .ref (a 202), .ref (a 203), .ref (a 204), .ref (a 205), .ref (a 206), .int 0, .int 0, .int 0, .int 0, .ref (a 208), .ref (a 209), .ref (a 210), .ref (a 211), .ref (a 212), .int 4, .int 12, .int (-1), .int 0, .ref (g 200), .ref (a 213), .int 0, .int 97, .ref (a 214), .ref (a 215), .ref (a 207), .null, .int 0]))] := hD
  refine lv_iload hx hb dL_law_999 (lv_at hl 1 rfl) ?_
  refine lv_icmp_eq (tgt := 1006) hx hb dL_law_1001 (by decide) (fun c_1 => ?_) (fun c_1 => ?_)
  · refine lv_iload hx hb dL_law_1006 (lv_at hl 1 rfl) ?_
    refine lv_if_ne (tgt := 1023) hx hb dL_law_1008 (by decide) (fun c_2 => ?_) (fun c_2 => ?_)
    · refine lv_goto (tgt := 4264) hx hb dL_law_1023 (by decide) ?_
      refine W.widen (k := 200 + 300) (n := 8000 + 2000) (Nat.le_of_ble_eq_true rfl) (Nat.le_of_ble_eq_true rfl) ?_
      exact kk _ _ _ hS (lv_sub hl [7, 2] rfl)
    · exact absurd c_2 (by decide)
  · exact absurd c_1 (by decide)
