theorem w_939 : Cond.methodLink RL 306 yX11_turnAbout ∈ TG := tg (sg_3 _ (List.mem_of_getElem? (i := 151) (by decide +kernel))) (by decide +kernel)
theorem w_940 : Cond.code yX11_turnAbout cX11_turnAbout 1 (some .int) ∈ TG := tg (sg_3 _ (List.mem_of_getElem? (i := 154) (by decide +kernel))) (by decide +kernel)
theorem w_941 : Cond.instanceMethod yX11_turnAbout ∈ TG := tg (sg_3 _ (List.mem_of_getElem? (i := 152) (by decide +kernel))) (by decide +kernel)
theorem w_942 : Cond.selects RX11 yX11_turnAbout yX11_turnAbout ∈ TG := tg (sg_3 _ (List.mem_of_getElem? (i := 153) (by decide +kernel))) (by decide +kernel)
theorem w_943 : Cond.methodLink RL 309 yX15_turnAbout ∈ TG := tg (sg_12 _ (List.mem_of_getElem? (i := 134) (by decide +kernel))) (by decide +kernel)
theorem w_944 : Cond.code yX15_turnAbout cX15_turnAbout 12 (some .int) ∈ TG := tg (sg_12 _ (List.mem_of_getElem? (i := 137) (by decide +kernel))) (by decide +kernel)
theorem w_945 : Cond.instanceMethod yX15_turnAbout ∈ TG := tg (sg_12 _ (List.mem_of_getElem? (i := 135) (by decide +kernel))) (by decide +kernel)
theorem w_946 : Cond.selects RX15 yX15_turnAbout yX15_turnAbout ∈ TG := tg (sg_12 _ (List.mem_of_getElem? (i := 136) (by decide +kernel))) (by decide +kernel)
theorem w_947 : Cond.methodLink RL 310 yL_fill ∈ TG := tg (sg_7 _ (List.mem_of_getElem? (i := 80) (by decide +kernel))) (by decide +kernel)
theorem w_948 : Cond.codeWith yL_fill cL_fill 5 (some .int) [(0, 10, 13, 26), (0, 10, 17, 24)] ∈ TG := tg (sg_7 _ (List.mem_of_getElem? (i := 82) (by decide +kernel))) (by decide +kernel)
theorem w_949 : Cond.static yL_fill ∈ TG := tg (sg_7 _ (List.mem_of_getElem? (i := 81) (by decide +kernel))) (by decide +kernel)
theorem w_950 : Cond.methodLink RL 313 yX15_fill ∈ TG := tg (sg_12 _ (List.mem_of_getElem? (i := 138) (by decide +kernel))) (by decide +kernel)
theorem w_951 : Cond.code yX15_fill cX15_fill 7 (some .int) ∈ TG := tg (sg_12 _ (List.mem_of_getElem? (i := 141) (by decide +kernel))) (by decide +kernel)
theorem w_952 : Cond.instanceMethod yX15_fill ∈ TG := tg (sg_12 _ (List.mem_of_getElem? (i := 139) (by decide +kernel))) (by decide +kernel)
theorem w_953 : Cond.selects RX15 yX15_fill yX15_fill ∈ TG := tg (sg_12 _ (List.mem_of_getElem? (i := 140) (by decide +kernel))) (by decide +kernel)
theorem w_954 : Cond.methodLink RL 314 yL_power ∈ TG := tg (sg_7 _ (List.mem_of_getElem? (i := 91) (by decide +kernel))) (by decide +kernel)
theorem w_955 : Cond.codeWith yL_power cL_power 4 (some .int) [(0, 9, 12, 26)] ∈ TG := tg (sg_7 _ (List.mem_of_getElem? (i := 93) (by decide +kernel))) (by decide +kernel)
theorem w_956 : Cond.static yL_power ∈ TG := tg (sg_7 _ (List.mem_of_getElem? (i := 92) (by decide +kernel))) (by decide +kernel)
theorem w_957 : Cond.methodLink RL 316 yX15_power ∈ TG := tg (sg_12 _ (List.mem_of_getElem? (i := 143) (by decide +kernel))) (by decide +kernel)
theorem w_958 : Cond.code yX15_power cX15_power 5 (some .int) ∈ TG := tg (sg_12 _ (List.mem_of_getElem? (i := 146) (by decide +kernel))) (by decide +kernel)
theorem w_959 : Cond.instanceMethod yX15_power ∈ TG := tg (sg_12 _ (List.mem_of_getElem? (i := 144) (by decide +kernel))) (by decide +kernel)
theorem w_960 : Cond.selects RX15 yX15_power yX15_power ∈ TG := tg (sg_12 _ (List.mem_of_getElem? (i := 145) (by decide +kernel))) (by decide +kernel)
theorem w_961 : Cond.methodLink RL 317 yX11_patterns ∈ TG := tg (sg_4 _ (List.mem_of_getElem? (i := 16) (by decide +kernel))) (by decide +kernel)
theorem w_962 : Cond.code yX11_patterns cX11_patterns 1 (some .int) ∈ TG := tg (sg_4 _ (List.mem_of_getElem? (i := 19) (by decide +kernel))) (by decide +kernel)
theorem w_963 : Cond.instanceMethod yX11_patterns ∈ TG := tg (sg_4 _ (List.mem_of_getElem? (i := 17) (by decide +kernel))) (by decide +kernel)
theorem w_964 : Cond.selects RX11 yX11_patterns yX11_patterns ∈ TG := tg (sg_4 _ (List.mem_of_getElem? (i := 18) (by decide +kernel))) (by decide +kernel)
theorem w_965 : Cond.methodLink RL 320 yX15_patterns ∈ TG := tg (sg_12 _ (List.mem_of_getElem? (i := 147) (by decide +kernel))) (by decide +kernel)
theorem w_966 : Cond.code yX15_patterns cX15_patterns 1 (some .int) ∈ TG := tg (sg_12 _ (List.mem_of_getElem? (i := 150) (by decide +kernel))) (by decide +kernel)
theorem w_967 : Cond.instanceMethod yX15_patterns ∈ TG := tg (sg_12 _ (List.mem_of_getElem? (i := 148) (by decide +kernel))) (by decide +kernel)
theorem w_968 : Cond.selects RX15 yX15_patterns yX15_patterns ∈ TG := tg (sg_12 _ (List.mem_of_getElem? (i := 149) (by decide +kernel))) (by decide +kernel)
theorem w_969 : Cond.methodLink RL 321 yL_known ∈ TG := tg (sg_7 _ (List.mem_of_getElem? (i := 102) (by decide +kernel))) (by decide +kernel)
theorem w_970 : Cond.codeWith yL_known cL_known 5 (some .int) [(0, 10, 13, 26)] ∈ TG := tg (sg_7 _ (List.mem_of_getElem? (i := 104) (by decide +kernel))) (by decide +kernel)
theorem w_971 : Cond.static yL_known ∈ TG := tg (sg_7 _ (List.mem_of_getElem? (i := 103) (by decide +kernel))) (by decide +kernel)
theorem w_972 : Cond.methodLink RL 323 yX15_known ∈ TG := tg (sg_12 _ (List.mem_of_getElem? (i := 151) (by decide +kernel))) (by decide +kernel)
theorem w_973 : Cond.code yX15_known cX15_known 6 (some .int) ∈ TG := tg (sg_12 _ (List.mem_of_getElem? (i := 154) (by decide +kernel))) (by decide +kernel)
theorem w_974 : Cond.instanceMethod yX15_known ∈ TG := tg (sg_12 _ (List.mem_of_getElem? (i := 152) (by decide +kernel))) (by decide +kernel)
theorem w_975 : Cond.selects RX15 yX15_known yX15_known ∈ TG := tg (sg_12 _ (List.mem_of_getElem? (i := 153) (by decide +kernel))) (by decide +kernel)
theorem w_976 : Cond.methodLink RL 327 yL_seedFor ∈ TG := tg (sg_7 _ (List.mem_of_getElem? (i := 124) (by decide +kernel))) (by decide +kernel)
theorem w_977 : Cond.codeWith yL_seedFor cL_seedFor 4 (some .int) [(0, 9, 12, 26), (0, 9, 15, 86)] ∈ TG := tg (sg_7 _ (List.mem_of_getElem? (i := 126) (by decide +kernel))) (by decide +kernel)
theorem w_978 : Cond.static yL_seedFor ∈ TG := tg (sg_7 _ (List.mem_of_getElem? (i := 125) (by decide +kernel))) (by decide +kernel)
theorem w_979 : Cond.methodLink RL 329 yX15_seedFor ∈ TG := tg (sg_12 _ (List.mem_of_getElem? (i := 164) (by decide +kernel))) (by decide +kernel)
theorem w_980 : Cond.code yX15_seedFor cX15_seedFor 7 (some .int) ∈ TG := tg (sg_12 _ (List.mem_of_getElem? (i := 167) (by decide +kernel))) (by decide +kernel)
theorem w_981 : Cond.instanceMethod yX15_seedFor ∈ TG := tg (sg_12 _ (List.mem_of_getElem? (i := 165) (by decide +kernel))) (by decide +kernel)
theorem w_982 : Cond.selects RX15 yX15_seedFor yX15_seedFor ∈ TG := tg (sg_12 _ (List.mem_of_getElem? (i := 166) (by decide +kernel))) (by decide +kernel)
theorem w_983 : Cond.methodLink RL 330 yL_signature ∈ TG := tg (sg_7 _ (List.mem_of_getElem? (i := 149) (by decide +kernel))) (by decide +kernel)
theorem w_984 : Cond.codeWith yL_signature cL_signature 4 (some .int) [(0, 9, 12, 26), (0, 9, 15, 24)] ∈ TG := tg (sg_7 _ (List.mem_of_getElem? (i := 151) (by decide +kernel))) (by decide +kernel)
theorem w_985 : Cond.static yL_signature ∈ TG := tg (sg_7 _ (List.mem_of_getElem? (i := 150) (by decide +kernel))) (by decide +kernel)
theorem w_986 : Cond.methodLink RL 332 yX15_signature ∈ TG := tg (sg_12 _ (List.mem_of_getElem? (i := 172) (by decide +kernel))) (by decide +kernel)
theorem w_987 : Cond.code yX15_signature cX15_signature 2 (some .int) ∈ TG := tg (sg_12 _ (List.mem_of_getElem? (i := 175) (by decide +kernel))) (by decide +kernel)
theorem w_988 : Cond.instanceMethod yX15_signature ∈ TG := tg (sg_12 _ (List.mem_of_getElem? (i := 173) (by decide +kernel))) (by decide +kernel)
theorem w_989 : Cond.selects RX15 yX15_signature yX15_signature ∈ TG := tg (sg_12 _ (List.mem_of_getElem? (i := 174) (by decide +kernel))) (by decide +kernel)
theorem w_990 : Cond.methodLink RL 333 yX11_aliased ∈ TG := tg (sg_4 _ (List.mem_of_getElem? (i := 20) (by decide +kernel))) (by decide +kernel)
theorem w_991 : Cond.code yX11_aliased cX11_aliased 4 (some .int) ∈ TG := tg (sg_4 _ (List.mem_of_getElem? (i := 23) (by decide +kernel))) (by decide +kernel)
theorem w_992 : Cond.instanceMethod yX11_aliased ∈ TG := tg (sg_4 _ (List.mem_of_getElem? (i := 21) (by decide +kernel))) (by decide +kernel)
theorem w_993 : Cond.selects RX11 yX11_aliased yX11_aliased ∈ TG := tg (sg_4 _ (List.mem_of_getElem? (i := 22) (by decide +kernel))) (by decide +kernel)
theorem w_994 : Cond.methodLink RL 336 yX15_aliased ∈ TG := tg (sg_12 _ (List.mem_of_getElem? (i := 180) (by decide +kernel))) (by decide +kernel)
theorem w_995 : Cond.code yX15_aliased cX15_aliased 5 (some .int) ∈ TG := tg (sg_12 _ (List.mem_of_getElem? (i := 183) (by decide +kernel))) (by decide +kernel)
theorem w_996 : Cond.instanceMethod yX15_aliased ∈ TG := tg (sg_12 _ (List.mem_of_getElem? (i := 181) (by decide +kernel))) (by decide +kernel)
theorem w_997 : Cond.selects RX15 yX15_aliased yX15_aliased ∈ TG := tg (sg_12 _ (List.mem_of_getElem? (i := 182) (by decide +kernel))) (by decide +kernel)
theorem w_998 : Cond.methodLink RL 337 yL_chance ∈ TG := tg (sg_7 _ (List.mem_of_getElem? (i := 156) (by decide +kernel))) (by decide +kernel)
theorem w_999 : Cond.codeWith yL_chance cL_chance 5 (some .int) [(0, 10, 13, 24), (0, 10, 17, 13)] ∈ TG := tg (sg_7 _ (List.mem_of_getElem? (i := 158) (by decide +kernel))) (by decide +kernel)
theorem w_1000 : Cond.static yL_chance ∈ TG := tg (sg_7 _ (List.mem_of_getElem? (i := 157) (by decide +kernel))) (by decide +kernel)
theorem w_1001 : Cond.methodLink RL 339 yX15_chance ∈ TG := tg (sg_12 _ (List.mem_of_getElem? (i := 184) (by decide +kernel))) (by decide +kernel)
theorem w_1002 : Cond.code yX15_chance cX15_chance 9 (some .int) ∈ TG := tg (sg_12 _ (List.mem_of_getElem? (i := 187) (by decide +kernel))) (by decide +kernel)
theorem w_1003 : Cond.instanceMethod yX15_chance ∈ TG := tg (sg_12 _ (List.mem_of_getElem? (i := 185) (by decide +kernel))) (by decide +kernel)
theorem w_1004 : Cond.selects RX15 yX15_chance yX15_chance ∈ TG := tg (sg_12 _ (List.mem_of_getElem? (i := 186) (by decide +kernel))) (by decide +kernel)
theorem w_1005 : Cond.methodLink RL 340 yL_weight ∈ TG := tg (sg_7 _ (List.mem_of_getElem? (i := 172) (by decide +kernel))) (by decide +kernel)
theorem w_1006 : Cond.codeWith yL_weight cL_weight 4 (some .int) [(0, 9, 12, 26), (0, 9, 15, 13)] ∈ TG := tg (sg_7 _ (List.mem_of_getElem? (i := 174) (by decide +kernel))) (by decide +kernel)
theorem w_1007 : Cond.static yL_weight ∈ TG := tg (sg_7 _ (List.mem_of_getElem? (i := 173) (by decide +kernel))) (by decide +kernel)
theorem w_1008 : Cond.methodLink RL 342 yX15_weight ∈ TG := tg (sg_12 _ (List.mem_of_getElem? (i := 189) (by decide +kernel))) (by decide +kernel)
theorem w_1009 : Cond.code yX15_weight cX15_weight 6 (some .int) ∈ TG := tg (sg_12 _ (List.mem_of_getElem? (i := 192) (by decide +kernel))) (by decide +kernel)
theorem w_1010 : Cond.instanceMethod yX15_weight ∈ TG := tg (sg_12 _ (List.mem_of_getElem? (i := 190) (by decide +kernel))) (by decide +kernel)
theorem w_1011 : Cond.selects RX15 yX15_weight yX15_weight ∈ TG := tg (sg_12 _ (List.mem_of_getElem? (i := 191) (by decide +kernel))) (by decide +kernel)
theorem w_1012 : Cond.methodLink RL 343 yL_ways ∈ TG := tg (sg_7 _ (List.mem_of_getElem? (i := 183) (by decide +kernel))) (by decide +kernel)
theorem w_1013 : Cond.codeWith yL_ways cL_ways 4 (some .int) [(0, 9, 12, 26), (0, 9, 15, 24)] ∈ TG := tg (sg_7 _ (List.mem_of_getElem? (i := 185) (by decide +kernel))) (by decide +kernel)
theorem w_1014 : Cond.static yL_ways ∈ TG := tg (sg_7 _ (List.mem_of_getElem? (i := 184) (by decide +kernel))) (by decide +kernel)
theorem w_1015 : Cond.methodLink RL 345 yX15_ways ∈ TG := tg (sg_12 _ (List.mem_of_getElem? (i := 193) (by decide +kernel))) (by decide +kernel)
theorem w_1016 : Cond.code yX15_ways cX15_ways 2 (some .int) ∈ TG := tg (sg_12 _ (List.mem_of_getElem? (i := 196) (by decide +kernel))) (by decide +kernel)
theorem w_1017 : Cond.instanceMethod yX15_ways ∈ TG := tg (sg_12 _ (List.mem_of_getElem? (i := 194) (by decide +kernel))) (by decide +kernel)
theorem w_1018 : Cond.selects RX15 yX15_ways yX15_ways ∈ TG := tg (sg_12 _ (List.mem_of_getElem? (i := 195) (by decide +kernel))) (by decide +kernel)
theorem w_1019 : Cond.methodLink RL 346 yL_hardest ∈ TG := tg (sg_7 _ (List.mem_of_getElem? (i := 194) (by decide +kernel))) (by decide +kernel)
theorem w_1020 : Cond.codeWith yL_hardest cL_hardest 3 (some .int) [(0, 8, 11, 86)] ∈ TG := tg (sg_7 _ (List.mem_of_getElem? (i := 196) (by decide +kernel))) (by decide +kernel)
theorem w_1021 : Cond.static yL_hardest ∈ TG := tg (sg_7 _ (List.mem_of_getElem? (i := 195) (by decide +kernel))) (by decide +kernel)
theorem w_1022 : Cond.methodLink RL 348 yX15_hardest ∈ TG := tg (sg_12 _ (List.mem_of_getElem? (i := 201) (by decide +kernel))) (by decide +kernel)
theorem w_1023 : Cond.code yX15_hardest cX15_hardest 6 (some .int) ∈ TG := tg (sg_12 _ (List.mem_of_getElem? (i := 204) (by decide +kernel))) (by decide +kernel)
theorem w_1024 : Cond.instanceMethod yX15_hardest ∈ TG := tg (sg_12 _ (List.mem_of_getElem? (i := 202) (by decide +kernel))) (by decide +kernel)
theorem w_1025 : Cond.selects RX15 yX15_hardest yX15_hardest ∈ TG := tg (sg_12 _ (List.mem_of_getElem? (i := 203) (by decide +kernel))) (by decide +kernel)
theorem dL_law_1797 : decode cL_law 1797 = .ok (.aload_n 1, 1) := by decide +kernel
theorem dL_law_1798 : decode cL_law 1798 = .ok (.invokevirtual 306, 3) := by decide +kernel
theorem dL_law_1801 : decode cL_law 1801 = .ok (.aload_n 2, 1) := by decide +kernel
theorem dL_law_1802 : decode cL_law 1802 = .ok (.invokevirtual 309, 3) := by decide +kernel
theorem dL_law_1805 : decode cL_law 1805 = .ok (.if_icmp .eq 2459, 3) := by decide +kernel
theorem dL_law_1810 : decode cL_law 1810 = .ok (.aload_n 1, 1) := by decide +kernel
theorem dL_law_1811 : decode cL_law 1811 = .ok (.aload_n 0, 1) := by decide +kernel
theorem dL_law_1812 : decode cL_law 1812 = .ok (.iload 5, 2) := by decide +kernel
theorem dL_law_1814 : decode cL_law 1814 = .ok (.iconst 1, 1) := by decide +kernel
theorem dL_law_1815 : decode cL_law 1815 = .ok (.iadd, 1) := by decide +kernel
theorem dL_law_1816 : decode cL_law 1816 = .ok (.iaload, 1) := by decide +kernel
theorem dL_law_1817 : decode cL_law 1817 = .ok (.aload_n 0, 1) := by decide +kernel
theorem dL_law_1818 : decode cL_law 1818 = .ok (.iload 5, 2) := by decide +kernel
theorem dL_law_1820 : decode cL_law 1820 = .ok (.iconst 2, 1) := by decide +kernel
theorem dL_law_1821 : decode cL_law 1821 = .ok (.iadd, 1) := by decide +kernel
theorem dL_law_1822 : decode cL_law 1822 = .ok (.iaload, 1) := by decide +kernel
theorem dL_law_1823 : decode cL_law 1823 = .ok (.i2c, 1) := by decide +kernel
theorem dL_law_1824 : decode cL_law 1824 = .ok (.aload_n 3, 1) := by decide +kernel
theorem dL_law_1825 : decode cL_law 1825 = .ok (.invokestatic 310, 3) := by decide +kernel
theorem dL_law_1828 : decode cL_law 1828 = .ok (.istore 6, 2) := by decide +kernel
theorem dL_law_1830 : decode cL_law 1830 = .ok (.aload_n 2, 1) := by decide +kernel
theorem dL_law_1831 : decode cL_law 1831 = .ok (.aload_n 0, 1) := by decide +kernel
theorem dL_law_1832 : decode cL_law 1832 = .ok (.iload 5, 2) := by decide +kernel
theorem dL_law_1834 : decode cL_law 1834 = .ok (.iconst 1, 1) := by decide +kernel
theorem dL_law_1835 : decode cL_law 1835 = .ok (.iadd, 1) := by decide +kernel
theorem dL_law_1836 : decode cL_law 1836 = .ok (.iaload, 1) := by decide +kernel
theorem dL_law_1837 : decode cL_law 1837 = .ok (.aload_n 0, 1) := by decide +kernel
theorem dL_law_1838 : decode cL_law 1838 = .ok (.iload 5, 2) := by decide +kernel
theorem dL_law_1840 : decode cL_law 1840 = .ok (.iconst 2, 1) := by decide +kernel
theorem dL_law_1841 : decode cL_law 1841 = .ok (.iadd, 1) := by decide +kernel
theorem dL_law_1842 : decode cL_law 1842 = .ok (.iaload, 1) := by decide +kernel
theorem dL_law_1843 : decode cL_law 1843 = .ok (.i2c, 1) := by decide +kernel
theorem dL_law_1844 : decode cL_law 1844 = .ok (.invokevirtual 313, 3) := by decide +kernel
theorem dL_law_1847 : decode cL_law 1847 = .ok (.istore 7, 2) := by decide +kernel
theorem dL_law_1849 : decode cL_law 1849 = .ok (.aload_n 2, 1) := by decide +kernel
theorem dL_law_1850 : decode cL_law 1850 = .ok (.invokevirtual 221, 3) := by decide +kernel
theorem dL_law_1853 : decode cL_law 1853 = .ok (.iload 6, 2) := by decide +kernel
theorem dL_law_1855 : decode cL_law 1855 = .ok (.if_icmp .eq 5, 3) := by decide +kernel
theorem dL_law_1860 : decode cL_law 1860 = .ok (.iload 6, 2) := by decide +kernel
theorem dL_law_1862 : decode cL_law 1862 = .ok (.ifCond .ne 15, 3) := by decide +kernel
theorem dL_law_1877 : decode cL_law 1877 = .ok (.goto 2387, 3) := by decide +kernel
theorem dL_law_1880 : decode cL_law 1880 = .ok (.aload_n 1, 1) := by decide +kernel
theorem dL_law_1881 : decode cL_law 1881 = .ok (.aload_n 0, 1) := by decide +kernel
theorem dL_law_1882 : decode cL_law 1882 = .ok (.iload 5, 2) := by decide +kernel
theorem dL_law_1884 : decode cL_law 1884 = .ok (.iconst 1, 1) := by decide +kernel
theorem dL_law_1885 : decode cL_law 1885 = .ok (.iadd, 1) := by decide +kernel
theorem dL_law_1886 : decode cL_law 1886 = .ok (.iaload, 1) := by decide +kernel
theorem dL_law_1887 : decode cL_law 1887 = .ok (.aload_n 3, 1) := by decide +kernel
theorem dL_law_1888 : decode cL_law 1888 = .ok (.invokestatic 314, 3) := by decide +kernel
theorem dL_law_1891 : decode cL_law 1891 = .ok (.istore 6, 2) := by decide +kernel
theorem dL_law_1893 : decode cL_law 1893 = .ok (.aload_n 2, 1) := by decide +kernel
theorem dL_law_1894 : decode cL_law 1894 = .ok (.aload_n 0, 1) := by decide +kernel
theorem dL_law_1895 : decode cL_law 1895 = .ok (.iload 5, 2) := by decide +kernel
theorem dL_law_1897 : decode cL_law 1897 = .ok (.iconst 1, 1) := by decide +kernel
theorem dL_law_1898 : decode cL_law 1898 = .ok (.iadd, 1) := by decide +kernel
theorem dL_law_1899 : decode cL_law 1899 = .ok (.iaload, 1) := by decide +kernel
theorem dL_law_1900 : decode cL_law 1900 = .ok (.invokevirtual 316, 3) := by decide +kernel
theorem dL_law_1903 : decode cL_law 1903 = .ok (.istore 7, 2) := by decide +kernel
theorem dL_law_1905 : decode cL_law 1905 = .ok (.aload_n 2, 1) := by decide +kernel
theorem dL_law_1906 : decode cL_law 1906 = .ok (.invokevirtual 221, 3) := by decide +kernel
theorem dL_law_1909 : decode cL_law 1909 = .ok (.iload 6, 2) := by decide +kernel
theorem dL_law_1911 : decode cL_law 1911 = .ok (.if_icmp .eq 5, 3) := by decide +kernel
theorem dL_law_1916 : decode cL_law 1916 = .ok (.iload 6, 2) := by decide +kernel
theorem dL_law_1918 : decode cL_law 1918 = .ok (.ifCond .ne 15, 3) := by decide +kernel
theorem dL_law_1933 : decode cL_law 1933 = .ok (.goto 2331, 3) := by decide +kernel
theorem dL_law_1936 : decode cL_law 1936 = .ok (.aload_n 1, 1) := by decide +kernel
theorem dL_law_1937 : decode cL_law 1937 = .ok (.invokevirtual 317, 3) := by decide +kernel
theorem dL_law_1940 : decode cL_law 1940 = .ok (.aload_n 2, 1) := by decide +kernel
theorem dL_law_1941 : decode cL_law 1941 = .ok (.invokevirtual 320, 3) := by decide +kernel
theorem dL_law_1944 : decode cL_law 1944 = .ok (.if_icmp .eq 2320, 3) := by decide +kernel
theorem dL_law_1949 : decode cL_law 1949 = .ok (.aload_n 1, 1) := by decide +kernel
theorem dL_law_1950 : decode cL_law 1950 = .ok (.aload_n 0, 1) := by decide +kernel
theorem dL_law_1951 : decode cL_law 1951 = .ok (.iload 5, 2) := by decide +kernel
theorem dL_law_1953 : decode cL_law 1953 = .ok (.iconst 1, 1) := by decide +kernel
theorem dL_law_1954 : decode cL_law 1954 = .ok (.iadd, 1) := by decide +kernel
theorem dL_law_1955 : decode cL_law 1955 = .ok (.iaload, 1) := by decide +kernel
theorem dL_law_1956 : decode cL_law 1956 = .ok (.aload_n 0, 1) := by decide +kernel
theorem dL_law_1957 : decode cL_law 1957 = .ok (.iload 5, 2) := by decide +kernel
theorem dL_law_1959 : decode cL_law 1959 = .ok (.iconst 2, 1) := by decide +kernel
theorem dL_law_1960 : decode cL_law 1960 = .ok (.iadd, 1) := by decide +kernel
theorem dL_law_1961 : decode cL_law 1961 = .ok (.iaload, 1) := by decide +kernel
theorem dL_law_1962 : decode cL_law 1962 = .ok (.ifCond .eq 7, 3) := by decide +kernel
theorem dL_law_1965 : decode cL_law 1965 = .ok (.iconst 1, 1) := by decide +kernel
theorem dL_law_1966 : decode cL_law 1966 = .ok (.goto 4, 3) := by decide +kernel
theorem dL_law_1969 : decode cL_law 1969 = .ok (.iconst 0, 1) := by decide +kernel
theorem dL_law_1970 : decode cL_law 1970 = .ok (.aload_n 3, 1) := by decide +kernel
theorem dL_law_1971 : decode cL_law 1971 = .ok (.invokestatic 321, 3) := by decide +kernel
theorem dL_law_1974 : decode cL_law 1974 = .ok (.istore 6, 2) := by decide +kernel
theorem dL_law_1976 : decode cL_law 1976 = .ok (.aload_n 2, 1) := by decide +kernel
theorem dL_law_1977 : decode cL_law 1977 = .ok (.aload_n 0, 1) := by decide +kernel
theorem dL_law_1978 : decode cL_law 1978 = .ok (.iload 5, 2) := by decide +kernel
theorem dL_law_1980 : decode cL_law 1980 = .ok (.iconst 1, 1) := by decide +kernel
theorem dL_law_1981 : decode cL_law 1981 = .ok (.iadd, 1) := by decide +kernel
theorem dL_law_1982 : decode cL_law 1982 = .ok (.iaload, 1) := by decide +kernel
theorem dL_law_1983 : decode cL_law 1983 = .ok (.aload_n 0, 1) := by decide +kernel
theorem dL_law_1984 : decode cL_law 1984 = .ok (.iload 5, 2) := by decide +kernel
theorem dL_law_1986 : decode cL_law 1986 = .ok (.iconst 2, 1) := by decide +kernel
theorem dL_law_1987 : decode cL_law 1987 = .ok (.iadd, 1) := by decide +kernel
theorem dL_law_1988 : decode cL_law 1988 = .ok (.iaload, 1) := by decide +kernel
theorem dL_law_1989 : decode cL_law 1989 = .ok (.ifCond .eq 7, 3) := by decide +kernel
theorem dL_law_1992 : decode cL_law 1992 = .ok (.iconst 1, 1) := by decide +kernel
theorem dL_law_1993 : decode cL_law 1993 = .ok (.goto 4, 3) := by decide +kernel
theorem dL_law_1996 : decode cL_law 1996 = .ok (.iconst 0, 1) := by decide +kernel
theorem dL_law_1997 : decode cL_law 1997 = .ok (.invokevirtual 323, 3) := by decide +kernel
theorem dL_law_2000 : decode cL_law 2000 = .ok (.istore 7, 2) := by decide +kernel
theorem dL_law_2002 : decode cL_law 2002 = .ok (.aload_n 2, 1) := by decide +kernel
theorem dL_law_2003 : decode cL_law 2003 = .ok (.invokevirtual 221, 3) := by decide +kernel
theorem dL_law_2006 : decode cL_law 2006 = .ok (.iload 6, 2) := by decide +kernel
theorem dL_law_2008 : decode cL_law 2008 = .ok (.if_icmp .eq 5, 3) := by decide +kernel
theorem dL_law_2013 : decode cL_law 2013 = .ok (.iload 6, 2) := by decide +kernel
theorem dL_law_2015 : decode cL_law 2015 = .ok (.ifCond .ne 15, 3) := by decide +kernel
theorem dL_law_2030 : decode cL_law 2030 = .ok (.goto 2234, 3) := by decide +kernel
theorem dL_law_2101 : decode cL_law 2101 = .ok (.aload_n 1, 1) := by decide +kernel
theorem dL_law_2102 : decode cL_law 2102 = .ok (.aload_n 0, 1) := by decide +kernel
theorem dL_law_2103 : decode cL_law 2103 = .ok (.iload 5, 2) := by decide +kernel
theorem dL_law_2105 : decode cL_law 2105 = .ok (.iconst 1, 1) := by decide +kernel
theorem dL_law_2106 : decode cL_law 2106 = .ok (.iadd, 1) := by decide +kernel
theorem dL_law_2107 : decode cL_law 2107 = .ok (.iaload, 1) := by decide +kernel
theorem dL_law_2108 : decode cL_law 2108 = .ok (.aload_n 3, 1) := by decide +kernel
theorem dL_law_2109 : decode cL_law 2109 = .ok (.invokestatic 327, 3) := by decide +kernel
theorem dL_law_2112 : decode cL_law 2112 = .ok (.istore 6, 2) := by decide +kernel
theorem dL_law_2114 : decode cL_law 2114 = .ok (.aload_n 2, 1) := by decide +kernel
theorem dL_law_2115 : decode cL_law 2115 = .ok (.aload_n 0, 1) := by decide +kernel
theorem dL_law_2116 : decode cL_law 2116 = .ok (.iload 5, 2) := by decide +kernel
theorem dL_law_2118 : decode cL_law 2118 = .ok (.iconst 1, 1) := by decide +kernel
theorem dL_law_2119 : decode cL_law 2119 = .ok (.iadd, 1) := by decide +kernel
theorem dL_law_2120 : decode cL_law 2120 = .ok (.iaload, 1) := by decide +kernel
theorem dL_law_2121 : decode cL_law 2121 = .ok (.invokevirtual 329, 3) := by decide +kernel
theorem dL_law_2124 : decode cL_law 2124 = .ok (.istore 7, 2) := by decide +kernel
theorem dL_law_2126 : decode cL_law 2126 = .ok (.aload_n 2, 1) := by decide +kernel
theorem dL_law_2127 : decode cL_law 2127 = .ok (.invokevirtual 221, 3) := by decide +kernel
theorem dL_law_2130 : decode cL_law 2130 = .ok (.iload 6, 2) := by decide +kernel
theorem dL_law_2132 : decode cL_law 2132 = .ok (.if_icmp .eq 5, 3) := by decide +kernel
theorem dL_law_2137 : decode cL_law 2137 = .ok (.iload 6, 2) := by decide +kernel
theorem dL_law_2139 : decode cL_law 2139 = .ok (.ifCond .ne 15, 3) := by decide +kernel
theorem dL_law_2154 : decode cL_law 2154 = .ok (.goto 2110, 3) := by decide +kernel
theorem dL_law_2157 : decode cL_law 2157 = .ok (.aload_n 1, 1) := by decide +kernel
theorem dL_law_2158 : decode cL_law 2158 = .ok (.aload_n 0, 1) := by decide +kernel
theorem dL_law_2159 : decode cL_law 2159 = .ok (.iload 5, 2) := by decide +kernel
theorem dL_law_2161 : decode cL_law 2161 = .ok (.iconst 1, 1) := by decide +kernel
theorem dL_law_2162 : decode cL_law 2162 = .ok (.iadd, 1) := by decide +kernel
theorem dL_law_2163 : decode cL_law 2163 = .ok (.iaload, 1) := by decide +kernel
theorem dL_law_2164 : decode cL_law 2164 = .ok (.aload_n 3, 1) := by decide +kernel
theorem dL_law_2165 : decode cL_law 2165 = .ok (.invokestatic 330, 3) := by decide +kernel
theorem dL_law_2168 : decode cL_law 2168 = .ok (.istore 6, 2) := by decide +kernel
theorem dL_law_2170 : decode cL_law 2170 = .ok (.aload_n 2, 1) := by decide +kernel
theorem dL_law_2171 : decode cL_law 2171 = .ok (.aload_n 0, 1) := by decide +kernel
theorem dL_law_2172 : decode cL_law 2172 = .ok (.iload 5, 2) := by decide +kernel
theorem dL_law_2174 : decode cL_law 2174 = .ok (.iconst 1, 1) := by decide +kernel
theorem dL_law_2175 : decode cL_law 2175 = .ok (.iadd, 1) := by decide +kernel
theorem dL_law_2176 : decode cL_law 2176 = .ok (.iaload, 1) := by decide +kernel
theorem dL_law_2177 : decode cL_law 2177 = .ok (.invokevirtual 332, 3) := by decide +kernel
theorem dL_law_2180 : decode cL_law 2180 = .ok (.istore 7, 2) := by decide +kernel
theorem dL_law_2182 : decode cL_law 2182 = .ok (.aload_n 2, 1) := by decide +kernel
theorem dL_law_2183 : decode cL_law 2183 = .ok (.invokevirtual 221, 3) := by decide +kernel
theorem dL_law_2186 : decode cL_law 2186 = .ok (.iload 6, 2) := by decide +kernel
theorem dL_law_2188 : decode cL_law 2188 = .ok (.if_icmp .eq 5, 3) := by decide +kernel
theorem dL_law_2193 : decode cL_law 2193 = .ok (.iload 6, 2) := by decide +kernel
theorem dL_law_2195 : decode cL_law 2195 = .ok (.ifCond .ne 15, 3) := by decide +kernel
theorem dL_law_2198 : decode cL_law 2198 = .ok (.aload_n 3, 1) := by decide +kernel
theorem dL_law_2199 : decode cL_law 2199 = .ok (.iconst 0, 1) := by decide +kernel
theorem dL_law_2200 : decode cL_law 2200 = .ok (.laload, 1) := by decide +kernel
theorem dL_law_2201 : decode cL_law 2201 = .ok (.iload 7, 2) := by decide +kernel
theorem dL_law_2203 : decode cL_law 2203 = .ok (.i2l, 1) := by decide +kernel
theorem dL_law_2204 : decode cL_law 2204 = .ok (.lcmp, 1) := by decide +kernel
theorem dL_law_2205 : decode cL_law 2205 = .ok (.ifCond .eq 5, 3) := by decide +kernel
theorem dL_law_2210 : decode cL_law 2210 = .ok (.goto 2054, 3) := by decide +kernel
theorem dL_law_2213 : decode cL_law 2213 = .ok (.aload_n 1, 1) := by decide +kernel
theorem dL_law_2214 : decode cL_law 2214 = .ok (.invokevirtual 333, 3) := by decide +kernel
theorem dL_law_2217 : decode cL_law 2217 = .ok (.aload_n 2, 1) := by decide +kernel
theorem dL_law_2218 : decode cL_law 2218 = .ok (.invokevirtual 336, 3) := by decide +kernel
theorem dL_law_2221 : decode cL_law 2221 = .ok (.if_icmp .eq 2043, 3) := by decide +kernel
theorem dL_law_2226 : decode cL_law 2226 = .ok (.aload_n 1, 1) := by decide +kernel
theorem dL_law_2227 : decode cL_law 2227 = .ok (.aload_n 0, 1) := by decide +kernel
theorem dL_law_2228 : decode cL_law 2228 = .ok (.iload 5, 2) := by decide +kernel
theorem dL_law_2230 : decode cL_law 2230 = .ok (.iconst 1, 1) := by decide +kernel
theorem dL_law_2231 : decode cL_law 2231 = .ok (.iadd, 1) := by decide +kernel
theorem dL_law_2232 : decode cL_law 2232 = .ok (.iaload, 1) := by decide +kernel
theorem dL_law_2233 : decode cL_law 2233 = .ok (.aload_n 0, 1) := by decide +kernel
theorem dL_law_2234 : decode cL_law 2234 = .ok (.iload 5, 2) := by decide +kernel
theorem dL_law_2236 : decode cL_law 2236 = .ok (.iconst 2, 1) := by decide +kernel
theorem dL_law_2237 : decode cL_law 2237 = .ok (.iadd, 1) := by decide +kernel
theorem dL_law_2238 : decode cL_law 2238 = .ok (.iaload, 1) := by decide +kernel
theorem dL_law_2239 : decode cL_law 2239 = .ok (.aload_n 3, 1) := by decide +kernel
theorem dL_law_2240 : decode cL_law 2240 = .ok (.invokestatic 337, 3) := by decide +kernel
theorem dL_law_2243 : decode cL_law 2243 = .ok (.istore 6, 2) := by decide +kernel
theorem dL_law_2245 : decode cL_law 2245 = .ok (.aload_n 2, 1) := by decide +kernel
theorem dL_law_2246 : decode cL_law 2246 = .ok (.aload_n 0, 1) := by decide +kernel
theorem dL_law_2247 : decode cL_law 2247 = .ok (.iload 5, 2) := by decide +kernel
theorem dL_law_2249 : decode cL_law 2249 = .ok (.iconst 1, 1) := by decide +kernel
theorem dL_law_2250 : decode cL_law 2250 = .ok (.iadd, 1) := by decide +kernel
theorem dL_law_2251 : decode cL_law 2251 = .ok (.iaload, 1) := by decide +kernel
theorem dL_law_2252 : decode cL_law 2252 = .ok (.aload_n 0, 1) := by decide +kernel
theorem dL_law_2253 : decode cL_law 2253 = .ok (.iload 5, 2) := by decide +kernel
theorem dL_law_2255 : decode cL_law 2255 = .ok (.iconst 2, 1) := by decide +kernel
theorem dL_law_2256 : decode cL_law 2256 = .ok (.iadd, 1) := by decide +kernel
theorem dL_law_2257 : decode cL_law 2257 = .ok (.iaload, 1) := by decide +kernel
theorem dL_law_2258 : decode cL_law 2258 = .ok (.invokevirtual 339, 3) := by decide +kernel
theorem dL_law_2261 : decode cL_law 2261 = .ok (.istore 7, 2) := by decide +kernel
theorem dL_law_2263 : decode cL_law 2263 = .ok (.aload_n 2, 1) := by decide +kernel
theorem dL_law_2264 : decode cL_law 2264 = .ok (.invokevirtual 221, 3) := by decide +kernel
theorem dL_law_2267 : decode cL_law 2267 = .ok (.iload 6, 2) := by decide +kernel
theorem dL_law_2269 : decode cL_law 2269 = .ok (.if_icmp .eq 5, 3) := by decide +kernel
theorem dL_law_2274 : decode cL_law 2274 = .ok (.iload 6, 2) := by decide +kernel
theorem dL_law_2276 : decode cL_law 2276 = .ok (.ifCond .ne 15, 3) := by decide +kernel
theorem dL_law_2291 : decode cL_law 2291 = .ok (.goto 1973, 3) := by decide +kernel
theorem dL_law_2294 : decode cL_law 2294 = .ok (.aload_n 1, 1) := by decide +kernel
theorem dL_law_2295 : decode cL_law 2295 = .ok (.aload_n 0, 1) := by decide +kernel
theorem dL_law_2296 : decode cL_law 2296 = .ok (.iload 5, 2) := by decide +kernel
theorem dL_law_2298 : decode cL_law 2298 = .ok (.iconst 1, 1) := by decide +kernel
theorem dL_law_2299 : decode cL_law 2299 = .ok (.iadd, 1) := by decide +kernel
theorem dL_law_2300 : decode cL_law 2300 = .ok (.iaload, 1) := by decide +kernel
theorem dL_law_2301 : decode cL_law 2301 = .ok (.aload_n 3, 1) := by decide +kernel
theorem dL_law_2302 : decode cL_law 2302 = .ok (.invokestatic 340, 3) := by decide +kernel
theorem dL_law_2305 : decode cL_law 2305 = .ok (.istore 6, 2) := by decide +kernel
theorem dL_law_2307 : decode cL_law 2307 = .ok (.aload_n 2, 1) := by decide +kernel
theorem dL_law_2308 : decode cL_law 2308 = .ok (.aload_n 0, 1) := by decide +kernel
theorem dL_law_2309 : decode cL_law 2309 = .ok (.iload 5, 2) := by decide +kernel
theorem dL_law_2311 : decode cL_law 2311 = .ok (.iconst 1, 1) := by decide +kernel
theorem dL_law_2312 : decode cL_law 2312 = .ok (.iadd, 1) := by decide +kernel
theorem dL_law_2313 : decode cL_law 2313 = .ok (.iaload, 1) := by decide +kernel
theorem dL_law_2314 : decode cL_law 2314 = .ok (.invokevirtual 342, 3) := by decide +kernel
theorem dL_law_2317 : decode cL_law 2317 = .ok (.istore 7, 2) := by decide +kernel
theorem dL_law_2319 : decode cL_law 2319 = .ok (.aload_n 2, 1) := by decide +kernel
theorem dL_law_2320 : decode cL_law 2320 = .ok (.invokevirtual 221, 3) := by decide +kernel
theorem dL_law_2323 : decode cL_law 2323 = .ok (.iload 6, 2) := by decide +kernel
theorem dL_law_2325 : decode cL_law 2325 = .ok (.if_icmp .eq 5, 3) := by decide +kernel
theorem dL_law_2330 : decode cL_law 2330 = .ok (.iload 6, 2) := by decide +kernel
theorem dL_law_2332 : decode cL_law 2332 = .ok (.ifCond .ne 15, 3) := by decide +kernel
theorem dL_law_2347 : decode cL_law 2347 = .ok (.goto 1917, 3) := by decide +kernel
theorem dL_law_2350 : decode cL_law 2350 = .ok (.aload_n 1, 1) := by decide +kernel
theorem dL_law_2351 : decode cL_law 2351 = .ok (.aload_n 0, 1) := by decide +kernel
theorem dL_law_2352 : decode cL_law 2352 = .ok (.iload 5, 2) := by decide +kernel
theorem dL_law_2354 : decode cL_law 2354 = .ok (.iconst 1, 1) := by decide +kernel
theorem dL_law_2355 : decode cL_law 2355 = .ok (.iadd, 1) := by decide +kernel
theorem dL_law_2356 : decode cL_law 2356 = .ok (.iaload, 1) := by decide +kernel
theorem dL_law_2357 : decode cL_law 2357 = .ok (.aload_n 3, 1) := by decide +kernel
theorem dL_law_2358 : decode cL_law 2358 = .ok (.invokestatic 343, 3) := by decide +kernel
theorem dL_law_2361 : decode cL_law 2361 = .ok (.istore 6, 2) := by decide +kernel
theorem dL_law_2363 : decode cL_law 2363 = .ok (.aload_n 2, 1) := by decide +kernel
theorem dL_law_2364 : decode cL_law 2364 = .ok (.aload_n 0, 1) := by decide +kernel
theorem dL_law_2365 : decode cL_law 2365 = .ok (.iload 5, 2) := by decide +kernel
theorem dL_law_2367 : decode cL_law 2367 = .ok (.iconst 1, 1) := by decide +kernel
theorem dL_law_2368 : decode cL_law 2368 = .ok (.iadd, 1) := by decide +kernel
theorem dL_law_2369 : decode cL_law 2369 = .ok (.iaload, 1) := by decide +kernel
theorem dL_law_2370 : decode cL_law 2370 = .ok (.invokevirtual 345, 3) := by decide +kernel
theorem dL_law_2373 : decode cL_law 2373 = .ok (.istore 7, 2) := by decide +kernel
theorem dL_law_2375 : decode cL_law 2375 = .ok (.aload_n 2, 1) := by decide +kernel
theorem dL_law_2376 : decode cL_law 2376 = .ok (.invokevirtual 221, 3) := by decide +kernel
theorem dL_law_2379 : decode cL_law 2379 = .ok (.iload 6, 2) := by decide +kernel
theorem dL_law_2381 : decode cL_law 2381 = .ok (.if_icmp .eq 5, 3) := by decide +kernel
theorem dL_law_2386 : decode cL_law 2386 = .ok (.iload 6, 2) := by decide +kernel
theorem dL_law_2388 : decode cL_law 2388 = .ok (.ifCond .ne 15, 3) := by decide +kernel
theorem dL_law_2403 : decode cL_law 2403 = .ok (.goto 1861, 3) := by decide +kernel
theorem dL_law_2406 : decode cL_law 2406 = .ok (.aload_n 1, 1) := by decide +kernel
theorem dL_law_2407 : decode cL_law 2407 = .ok (.aload_n 3, 1) := by decide +kernel
theorem dL_law_2408 : decode cL_law 2408 = .ok (.invokestatic 346, 3) := by decide +kernel
theorem dL_law_2411 : decode cL_law 2411 = .ok (.istore 6, 2) := by decide +kernel
theorem dL_law_2413 : decode cL_law 2413 = .ok (.aload_n 2, 1) := by decide +kernel
theorem dL_law_2414 : decode cL_law 2414 = .ok (.invokevirtual 348, 3) := by decide +kernel
theorem dL_law_2417 : decode cL_law 2417 = .ok (.istore 7, 2) := by decide +kernel
theorem dL_law_2419 : decode cL_law 2419 = .ok (.aload_n 2, 1) := by decide +kernel
theorem dL_law_2420 : decode cL_law 2420 = .ok (.invokevirtual 221, 3) := by decide +kernel
theorem dL_law_2423 : decode cL_law 2423 = .ok (.iload 6, 2) := by decide +kernel
theorem dL_law_2425 : decode cL_law 2425 = .ok (.if_icmp .eq 5, 3) := by decide +kernel
theorem dL_law_2430 : decode cL_law 2430 = .ok (.iload 6, 2) := by decide +kernel
theorem dL_law_2432 : decode cL_law 2432 = .ok (.ifCond .ne 15, 3) := by decide +kernel
theorem dL_law_2447 : decode cL_law 2447 = .ok (.goto 1817, 3) := by decide +kernel
set_option maxHeartbeats 4000000 in
set_option maxRecDepth 100000 in
theorem lw_case_25 {p : Program} {l : Launch} {e : Env} {s : State} {m : MethodId} {below : List Frame} {meth : Method} {c : Code} {H : Heap} {locs : List Loc} {ls : Array Slot} {Q : State → Prop} {D : va_G} {g : Nat → ClassId} {z0 b : Nat} {xs : Nat → Int32} {a : Nat → Nat} {o1 o2 : Nat} (hfl : l.stackTraces = false) (hx : p.tables.exec = Jvm.exec) (hb : c.code = cL_law) (hml : c.maxLocals = 9) (hown : s.vm.findClass RL = some m.cls) (ht : ∀ w ∈ TG, w.before #[Value.ref b] s = true) (hX : va_X b 6 xs s s.heap) (hbl : b < s.heap.size) (hbA : ¬ va_A [] s.heap.size b) (hK : KK D g s) (hZ : ZZ g z0 s) (hz : z0 ≤ s.heap.size) (hAz : ∀ q, va_A [] s.heap.size q → z0 ≤ q) (hP : va_P D vwCl (lwW a g o1 o2) H) (hD : va_D (va_A [] s.heap.size) (lwW a g o1 o2)) (hS : va_S (va_A [] s.heap.size) s.heap H locs) (hl : lv_has ls 9 [(0, .ref b), (1, .ref (a 0)), (2, .ref (a 200)), (3, .ref o1), (4, .ref o2), (5, .int 0)])
    (kk : ∀ (H : Heap) (locs : List Loc) (ls : Array Slot), va_S (va_A [] s.heap.size) s.heap H locs → lv_has ls 9 [(5, .int 0), (0, .ref b)] → W p l e room_1 s m #[Value.ref b] below meth c H locs (200 + 300) (8000 + 2000) Q (F0 m 4264 ls [])) :
    W p l e room_1 s m #[Value.ref b] below meth c H locs 200 8000 Q (F0 m 1797 ls []) := by
  have hA : ∀ q : Nat, s.heap.size ≤ q → va_A [] s.heap.size q := Anw
  have hP := hP.sub (ws' := [((a 0), f_x a), ((a 1), f_net a), ((a 2), f_book a), ((a 3), f_rows a), ((a 38), .inl (g 1, 12, .inr (.inl (fun _ => 0)))), ((a 39), .inl (g 1, 12, .inr (.inl (fun _ => 0)))), ((a 4), f_words a), ((a 200), f_m a g), ((a 201), .inr (5, [.int 0, .ref (g 100), .int 0])), ((a 206), .inr (5, [.int 0, .ref (g 100), .int 0]))]) [0, 5, 6, 7, 8, 9, 11, 26, 27, 32] rfl
  have hD := hD.sub (ws' := [((a 0), f_x a), ((a 1), f_net a), ((a 2), f_book a), ((a 3), f_rows a), ((a 38), .inl (g 1, 12, .inr (.inl (fun _ => 0)))), ((a 39), .inl (g 1, 12, .inr (.inl (fun _ => 0)))), ((a 4), f_words a), ((a 200), f_m a g), ((a 201), .inr (5, [.int 0, .ref (g 100), .int 0])), ((a 206), .inr (5, [.int 0, .ref (g 100), .int 0]))]) [0, 5, 6, 7, 8, 9, 11, 26, 27, 32] (by decide) rfl
  refine lv_aload_n hx hb dL_law_1797 rfl (lv_at hl 1 rfl) ?_
  have hPc : va_P D vwCl [((a 0), f_x a), ((a 3), f_rows a), ((a 4), f_words a), ((a 38), .inl (g 1, 12, .inr (.inl (fun _ => 0)))), ((a 39), .inl (g 1, 12, .inr (.inl (fun _ => 0)))), ((a 1), f_net a), ((a 2), f_book a)] _ := hP.sub (ws' := [((a 0), f_x a), ((a 3), f_rows a), ((a 4), f_words a), ((a 38), .inl (g 1, 12, .inr (.inl (fun _ => 0)))), ((a 39), .inl (g 1, 12, .inr (.inl (fun _ => 0)))), ((a 1), f_net a), ((a 2), f_book a)]) [0, 3, 6, 4, 5, 1, 2] rfl
  have hDc : va_D (fun q => z0 ≤ q) [((a 0), f_x a), ((a 3), f_rows a), ((a 4), f_words a), ((a 38), .inl (g 1, 12, .inr (.inl (fun _ => 0)))), ((a 39), .inl (g 1, 12, .inr (.inl (fun _ => 0)))), ((a 1), f_net a), ((a 2), f_book a)] := (hD.to hAz).pick (ws' := [((a 0), f_x a), ((a 3), f_rows a), ((a 4), f_words a), ((a 38), .inl (g 1, 12, .inr (.inl (fun _ => 0)))), ((a 39), .inl (g 1, 12, .inr (.inl (fun _ => 0)))), ((a 1), f_net a), ((a 2), f_book a)]) [0, 3, 6, 4, 5, 1, 2] (by decide) rfl
  have hFc := va_free (wc := [((a 0), f_x a), ((a 3), f_rows a), ((a 4), f_words a), ((a 38), .inl (g 1, 12, .inr (.inl (fun _ => 0)))), ((a 39), .inl (g 1, 12, .inr (.inl (fun _ => 0)))), ((a 1), f_net a), ((a 2), f_book a)]) hD hS hA [0, 3, 6, 4, 5, 1, 2] rfl
  refine va_calli (va_runV (As := []) (rest := []) ⟨hx, hb, hml, hown, ht⟩ (k_X11_turnAbout l D g z0 _ a) (cwV 0 ht (gV w_939 w_941 w_942 w_31 w_940) rfl rfl rfl (by decide +kernel) (le2 rfl rfl)) ⟨PP.blind, va_recv hK.1 hP (ci := 17) (q0 := 0) rfl rfl, PP.mk' hK hZ hz hAz hS hPc hDc⟩ rfl rfl hl.1 rfl (lv_room (Nat.le_of_ble_eq_true rfl)) dL_law_1798 (le2 rfl rfl)) hS (fun q _ h => hFc q h) hFc (fun r u t H locs ht1 hvm hw hB hz1 hk1 hS => ?_)
  obtain ⟨rfl, hw⟩ := hw
  obtain ⟨hP1, hD1⟩ := hB
  rw [ht1] at hP1
  obtain ⟨hP, hD⟩ := va_join (wr := [((a 200), f_m a g), ((a 201), .inr (5, [.int 0, .ref (g 100), .int 0])), ((a 206), .inr (5, [.int 0, .ref (g 100), .int 0]))]) (w1 := []) hP hD [0, 3, 6, 4, 5, 1, 2] [7, 8, 9] rfl rfl (by decide) (by decide) hk1 hFc hP1 hD1
  have hP : va_P D vwCl [((a 200), f_m a g), ((a 201), .inr (5, [.int 0, .ref (g 100), .int 0])), ((a 206), .inr (5, [.int 0, .ref (g 100), .int 0]))] H := hP
  have hD : va_D (va_A [] s.heap.size) [((a 200), f_m a g), ((a 201), .inr (5, [.int 0, .ref (g 100), .int 0])), ((a 206), .inr (5, [.int 0, .ref (g 100), .int 0]))] := hD
  refine lv_aload_n hx hb dL_law_1801 rfl (lv_at hl 2 rfl) ?_
  have hPc : va_P D vwCl [((a 200), f_m a g), ((a 201), .inr (5, [.int 0, .ref (g 100), .int 0])), ((a 206), .inr (5, [.int 0, .ref (g 100), .int 0]))] _ := hP.sub (ws' := [((a 200), f_m a g), ((a 201), .inr (5, [.int 0, .ref (g 100), .int 0])), ((a 206), .inr (5, [.int 0, .ref (g 100), .int 0]))]) [0, 1, 2] rfl
  have hDc : va_D (fun q => z0 ≤ q) [((a 200), f_m a g), ((a 201), .inr (5, [.int 0, .ref (g 100), .int 0])), ((a 206), .inr (5, [.int 0, .ref (g 100), .int 0]))] := (hD.to hAz).pick (ws' := [((a 200), f_m a g), ((a 201), .inr (5, [.int 0, .ref (g 100), .int 0])), ((a 206), .inr (5, [.int 0, .ref (g 100), .int 0]))]) [0, 1, 2] (by decide) rfl
  have hFc := va_free (wc := [((a 200), f_m a g), ((a 201), .inr (5, [.int 0, .ref (g 100), .int 0])), ((a 206), .inr (5, [.int 0, .ref (g 100), .int 0]))]) hD hS hA [0, 1, 2] rfl
  refine va_calli (va_runV (As := []) (rest := [.int 0]) ⟨hx, hb, hml, hown, ht⟩ (k_X15_turnAbout l D g z0 _ a) (cwV 0 ht (gV w_943 w_945 w_946 w_334 w_944) rfl rfl rfl (by decide +kernel) (le2 rfl rfl)) ⟨PP.blind, va_recv hK.1 hP (ci := 21) (q0 := 0) rfl rfl, PP.mk' hK hZ hz hAz hS hPc hDc⟩ rfl rfl hl.1 rfl (lv_room (Nat.le_of_ble_eq_true rfl)) dL_law_1802 (le2 rfl rfl)) hS (fun q _ h => hFc q h) hFc (fun r u t H locs ht1 hvm hw hB hz1 hk1 hS => ?_)
  obtain ⟨rfl, hw⟩ := hw
  obtain ⟨hP1, hD1⟩ := hB
  rw [ht1] at hP1
  obtain ⟨hP, hD⟩ := va_join (wr := []) (w1 := [((a 200), f_m a g)]) hP hD [0, 1, 2] [] rfl rfl (by decide) (by decide) hk1 hFc hP1 hD1
  have hP : va_P D vwCl [((a 200), f_m a g)] H := hP
  have hD : va_D (va_A [] s.heap.size) [((a 200), f_m a g)] := hD
  refine lv_icmp_eq (tgt := 4264) hx hb dL_law_1805 (by decide) (fun c_1 => ?_) (fun c_1 => ?_)
  · refine W.widen (k := 200 + 300) (n := 8000 + 2000) (Nat.le_of_ble_eq_true rfl) (Nat.le_of_ble_eq_true rfl) ?_
    exact kk _ _ _ hS (lv_sub hl [5, 0] rfl)
  · exact absurd c_1 (by decide)
set_option maxHeartbeats 4000000 in
set_option maxRecDepth 100000 in
theorem lw_case_26 {p : Program} {l : Launch} {e : Env} {s : State} {m : MethodId} {below : List Frame} {meth : Method} {c : Code} {H : Heap} {locs : List Loc} {ls : Array Slot} {Q : State → Prop} {D : va_G} {g : Nat → ClassId} {z0 b : Nat} {xs : Nat → Int32} {a : Nat → Nat} {o1 o2 : Nat} (hfl : l.stackTraces = false) (hx : p.tables.exec = Jvm.exec) (hb : c.code = cL_law) (hml : c.maxLocals = 9) (hown : s.vm.findClass RL = some m.cls) (ht : ∀ w ∈ TG, w.before #[Value.ref b] s = true) (hX : va_X b 6 xs s s.heap) (hbl : b < s.heap.size) (hbA : ¬ va_A [] s.heap.size b) (hK : KK D g s) (hZ : ZZ g z0 s) (hz : z0 ≤ s.heap.size) (hAz : ∀ q, va_A [] s.heap.size q → z0 ≤ q) (hP : va_P D vwCl (lwW a g o1 o2) H) (hD : va_D (va_A [] s.heap.size) (lwW a g o1 o2)) (hS : va_S (va_A [] s.heap.size) s.heap H locs) (hl : lv_has ls 9 [(0, .ref b), (1, .ref (a 0)), (2, .ref (a 200)), (3, .ref o1), (4, .ref o2), (5, .int 0)])
    (kk : ∀ (H : Heap) (locs : List Loc) (ls : Array Slot), va_S (va_A [] s.heap.size) s.heap H locs → lv_has ls 9 [(5, .int 0), (0, .ref b)] → W p l e room_1 s m #[Value.ref b] below meth c H locs (200 + 300) (8000 + 2000) Q (F0 m 4264 ls [])) :
    W p l e room_1 s m #[Value.ref b] below meth c H locs 200 8000 Q (F0 m 1810 ls []) := by
  have hA : ∀ q : Nat, s.heap.size ≤ q → va_A [] s.heap.size q := Anw
  have hP := hP.sub (ws' := [((a 0), f_x a), ((a 3), f_rows a), ((a 200), f_m a g), ((a 206), .inr (5, [.int 0, .ref (g 100), .int 0])), (o1, .inl (g 1, 1, .inr (.inl (fun _ => 0))))]) [0, 7, 26, 32, 61] rfl
  have hD := hD.sub (ws' := [((a 0), f_x a), ((a 3), f_rows a), ((a 200), f_m a g), ((a 206), .inr (5, [.int 0, .ref (g 100), .int 0])), (o1, .inl (g 1, 1, .inr (.inl (fun _ => 0))))]) [0, 7, 26, 32, 61] (by decide) rfl
  refine lv_aload_n hx hb dL_law_1810 rfl (lv_at hl 1 rfl) ?_
  refine lv_aload_n hx hb dL_law_1811 rfl (lv_at hl 0 rfl) ?_
  refine lv_iload hx hb dL_law_1812 (lv_at hl 5 rfl) ?_
  refine lv_iconst (v := 1) hx hb dL_law_1814 (by decide) ?_
  refine lv_iadd hx hb dL_law_1815 ?_
  refine r_topi (v := 1) (by decide) ?_
  refine va_sld hx hb hX hbl hbA hS (by unfold vp_in; decide) dL_law_1816 ?_
  refine r_topi (v := xs 1) (congrArg xs (by decide)) ?_
  refine lv_aload_n hx hb dL_law_1817 rfl (lv_at hl 0 rfl) ?_
  refine lv_iload hx hb dL_law_1818 (lv_at hl 5 rfl) ?_
  refine lv_iconst (v := 2) hx hb dL_law_1820 (by decide) ?_
  refine lv_iadd hx hb dL_law_1821 ?_
  refine r_topi (v := 2) (by decide) ?_
  refine va_sld hx hb hX hbl hbA hS (by unfold vp_in; decide) dL_law_1822 ?_
  refine r_topi (v := xs 2) (congrArg xs (by decide)) ?_
  refine lv_i2c (v := ((xs 2).toUInt32 % 65536).toInt32) hx hb dL_law_1823 rfl ?_
  refine lv_aload_n hx hb dL_law_1824 rfl (lv_at hl 3 rfl) ?_
  have hPc : va_P D vwCl [(o1, .inl (g 1, 1, .inr (.inl (fun _ => 0)))), ((a 0), f_x a), ((a 3), f_rows a)] _ := hP.sub (ws' := [(o1, .inl (g 1, 1, .inr (.inl (fun _ => 0)))), ((a 0), f_x a), ((a 3), f_rows a)]) [4, 0, 1] rfl
  have hDc : va_D (fun q => z0 ≤ q) [(o1, .inl (g 1, 1, .inr (.inl (fun _ => 0)))), ((a 0), f_x a), ((a 3), f_rows a)] := (hD.to hAz).pick (ws' := [(o1, .inl (g 1, 1, .inr (.inl (fun _ => 0)))), ((a 0), f_x a), ((a 3), f_rows a)]) [4, 0, 1] (by decide) rfl
  have hFc := va_free (wc := [(o1, .inl (g 1, 1, .inr (.inl (fun _ => 0)))), ((a 0), f_x a), ((a 3), f_rows a)]) hD hS hA [4, 0, 1] rfl
  refine va_calli (vx_runSW (As := [.ref (a 0), .int (xs 1), .int (((xs 2).toUInt32 % 65536).toInt32), .ref o1]) (rest := []) ⟨hx, hb, hml, hown, ht⟩ (k_L_fill l hfl D g z0 _ a (xs 1) (((xs 2).toUInt32 % 65536).toInt32) o1 (isC_i2c _)) (vx_cwSW 4 ht (gS w_947 w_949 w_767 w_948) rfl rfl rfl (by decide +kernel) (le2 rfl rfl)) ⟨PP.blind, PP.mk' hK hZ hz hAz hS hPc hDc⟩ rfl rfl hl.1 rfl (lv_room (Nat.le_of_ble_eq_true rfl)) dL_law_1825 (le2 rfl rfl)) hS (fun q _ h => hFc q h) hFc (fun r u t H locs ht1 hvm hw hB hz1 hk1 hS => ?_)
  obtain ⟨rfl, hw⟩ := hw
  obtain ⟨hP1, hD1⟩ := hB
  rw [ht1] at hP1
  obtain ⟨hP, hD⟩ := va_join (wr := [((a 200), f_m a g), ((a 206), .inr (5, [.int 0, .ref (g 100), .int 0]))]) (w1 := [(o1, .inl (g 1, 1, .inr (.inl (fun _ => 0))))]) hP hD [4, 0, 1] [2, 3] rfl rfl (by decide) (by decide) hk1 hFc hP1 hD1
  have hP : va_P D vwCl [((a 200), f_m a g), ((a 206), .inr (5, [.int 0, .ref (g 100), .int 0])), (o1, .inl (g 1, 1, .inr (.inl (fun _ => 0))))] H := hP
  have hD : va_D (va_A [] s.heap.size) [((a 200), f_m a g), ((a 206), .inr (5, [.int 0, .ref (g 100), .int 0])), (o1, .inl (g 1, 1, .inr (.inl (fun _ => 0))))] := hD
  refine lv_istore (lv' := [(6, .int 1), (0, .ref b), (1, .ref (a 0)), (2, .ref (a 200)), (3, .ref o1), (4, .ref o2), (5, .int 0)]) hx hb dL_law_1828 hl (by decide) rfl (fun ls hl => ?_)
  refine lv_aload_n hx hb dL_law_1830 rfl (lv_at hl 3 rfl) ?_
  refine lv_aload_n hx hb dL_law_1831 rfl (lv_at hl 1 rfl) ?_
  refine lv_iload hx hb dL_law_1832 (lv_at hl 6 rfl) ?_
  refine lv_iconst (v := 1) hx hb dL_law_1834 (by decide) ?_
  refine lv_iadd hx hb dL_law_1835 ?_
  refine r_topi (v := 1) (by decide) ?_
  refine va_sld hx hb hX hbl hbA hS (by unfold vp_in; decide) dL_law_1836 ?_
  refine r_topi (v := xs 1) (congrArg xs (by decide)) ?_
  refine lv_aload_n hx hb dL_law_1837 rfl (lv_at hl 1 rfl) ?_
  refine lv_iload hx hb dL_law_1838 (lv_at hl 6 rfl) ?_
  refine lv_iconst (v := 2) hx hb dL_law_1840 (by decide) ?_
  refine lv_iadd hx hb dL_law_1841 ?_
  refine r_topi (v := 2) (by decide) ?_
  refine va_sld hx hb hX hbl hbA hS (by unfold vp_in; decide) dL_law_1842 ?_
  refine r_topi (v := xs 2) (congrArg xs (by decide)) ?_
  refine lv_i2c (v := ((xs 2).toUInt32 % 65536).toInt32) hx hb dL_law_1843 rfl ?_
  have hPc : va_P D vwCl [((a 200), f_m a g), ((a 206), .inr (5, [.int 0, .ref (g 100), .int 0]))] _ := hP.sub (ws' := [((a 200), f_m a g), ((a 206), .inr (5, [.int 0, .ref (g 100), .int 0]))]) [0, 1] rfl
  have hDc : va_D (fun q => z0 ≤ q) [((a 200), f_m a g), ((a 206), .inr (5, [.int 0, .ref (g 100), .int 0]))] := (hD.to hAz).pick (ws' := [((a 200), f_m a g), ((a 206), .inr (5, [.int 0, .ref (g 100), .int 0]))]) [0, 1] (by decide) rfl
  have hFc := va_free (wc := [((a 200), f_m a g), ((a 206), .inr (5, [.int 0, .ref (g 100), .int 0]))]) hD hS hA [0, 1] rfl
  refine va_calli (va_runV (As := [.int (xs 1), .int (((xs 2).toUInt32 % 65536).toInt32)]) (rest := []) ⟨hx, hb, hml, hown, ht⟩ (k_X15_fill l D g z0 _ a (xs 1) (((xs 2).toUInt32 % 65536).toInt32) (isC_i2c _)) (cwV 2 ht (gV w_950 w_952 w_953 w_334 w_951) rfl rfl rfl (by decide +kernel) (le2 rfl rfl)) ⟨PP.blind, va_recv hK.1 hP (ci := 21) (q0 := 0) rfl rfl, PP.mk' hK hZ hz hAz hS hPc hDc⟩ rfl rfl hl.1 rfl (lv_room (Nat.le_of_ble_eq_true rfl)) dL_law_1844 (le2 rfl rfl)) hS (fun q _ h => hFc q h) hFc (fun r u t H locs ht1 hvm hw hB hz1 hk1 hS => ?_)
  obtain ⟨rfl, hw⟩ := hw
  obtain ⟨hP1, hD1⟩ := hB
  rw [ht1] at hP1
  obtain ⟨hP, hD⟩ := va_join (wr := [(o1, .inl (g 1, 1, .inr (.inl (fun _ => 0))))]) (w1 := [((a 200), .inr (21, [.int 1, .ref (a 201), .ref (a 202), .ref (a 203), .ref (a 204), .ref (a 205), .ref (a 206), .int 0, .int 0, .int 0, .int 0, .ref (a 208), .ref (a 209), .ref (a 210), .ref (a 211), .ref (a 212), .int 4, .int 12, .int (-1), .int 0, .ref (g 200), .ref (a 213), .int 0, .int 97, .ref (a 214), .ref (a 215), .ref (a 207), .null, .int 0]))]) hP hD [0, 1] [2] rfl rfl (by decide) (by decide) hk1 hFc hP1 hD1
  have hP : va_P D vwCl [(o1, .inl (g 1, 1, .inr (.inl (fun _ => 0)))), ((a 200), .inr (21, [.int 1, .ref (a 201), .ref (a 202), .ref (a 203), .ref (a 204), .ref (a 205), .ref (a 206), .int 0, .int 0, .int 0, .int 0, .ref (a 208), .ref (a 209), .ref (a 210), .ref (a 211), .ref (a 212), .int 4, .int 12, .int (-1), .int 0, .ref (g 200), .ref (a 213), .int 0, .int 97, .ref (a 214), .ref (a 215), .ref (a 207), .null, .int 0]))] H := hP
  have hD : va_D (va_A [] s.heap.size) [(o1, .inl (g 1, 1, .inr (.inl (fun _ => 0)))), ((a 200), .inr (21, [.int 1, .ref (a 201), .ref (a 202), .ref (a 203), .ref (a 204), .ref (a 205), .ref (a 206), .int 0, .int 0, .int 0, .int 0, .ref (a 208), .ref (a 209), .ref (a 210), .ref (a 211), .ref (a 212), .int 4, .int 12, .int (-1), .int 0, .ref (g 200), .ref (a 213), .int 0, .int 97, .ref (a 214), .ref (a 215), .ref (a 207), .null, .int 0]))] := hD
  refine lv_istore (lv' := [(7, .int 0), (6, .int 1), (0, .ref b), (1, .ref (a 0)), (2, .ref (a 200)), (3, .ref o1), (4, .ref o2), (5, .int 0)]) hx hb dL_law_1847 hl (by decide) rfl (fun ls hl => ?_)
  refine lv_aload_n hx hb dL_law_1849 rfl (lv_at hl 4 rfl) ?_
  have hPc : va_P D vwCl [((a 200), .inr (21, [.int 1, .ref (a 201), .ref (a 202), .ref (a 203), .ref (a 204), .ref (a 205), .ref (a 206), .int 0, .int 0, .int 0, .int 0, .ref (a 208), .ref (a 209), .ref (a 210), .ref (a 211), .ref (a 212), .int 4, .int 12, .int (-1), .int 0, .ref (g 200), .ref (a 213), .int 0, .int 97, .ref (a 214), .ref (a 215), .ref (a 207), .null, .int 0]))] _ := hP.sub (ws' := [((a 200), .inr (21, [.int 1, .ref (a 201), .ref (a 202), .ref (a 203), .ref (a 204), .ref (a 205), .ref (a 206), .int 0, .int 0, .int 0, .int 0, .ref (a 208), .ref (a 209), .ref (a 210), .ref (a 211), .ref (a 212), .int 4, .int 12, .int (-1), .int 0, .ref (g 200), .ref (a 213), .int 0, .int 97, .ref (a 214), .ref (a 215), .ref (a 207), .null, .int 0]))]) [1] rfl
  have hDc : va_D (fun q => z0 ≤ q) [((a 200), .inr (21, [.int 1, .ref (a 201), .ref (a 202), .ref (a 203), .ref (a 204), .ref (a 205), .ref (a 206), .int 0, .int 0, .int 0, .int 0, .ref (a 208), .ref (a 209), .ref (a 210), .ref (a 211), .ref (a 212), .int 4, .int 12, .int (-1), .int 0, .ref (g 200), .ref (a 213), .int 0, .int 97, .ref (a 214), .ref (a 215), .ref (a 207), .null, .int 0]))] := (hD.to hAz).pick (ws' := [((a 200), .inr (21, [.int 1, .ref (a 201), .ref (a 202), .ref (a 203), .ref (a 204), .ref (a 205), .ref (a 206), .int 0, .int 0, .int 0, .int 0, .ref (a 208), .ref (a 209), .ref (a 210), .ref (a 211), .ref (a 212), .int 4, .int 12, .int (-1), .int 0, .ref (g 200), .ref (a 213), .int 0, .int 97, .ref (a 214), .ref (a 215), .ref (a 207), .null, .int 0]))]) [1] (by decide) rfl
  have hFc := va_free (wc := [((a 200), .inr (21, [.int 1, .ref (a 201), .ref (a 202), .ref (a 203), .ref (a 204), .ref (a 205), .ref (a 206), .int 0, .int 0, .int 0, .int 0, .ref (a 208), .ref (a 209), .ref (a 210), .ref (a 211), .ref (a 212), .int 4, .int 12, .int (-1), .int 0, .ref (g 200), .ref (a 213), .int 0, .int 97, .ref (a 214), .ref (a 215), .ref (a 207), .null, .int 0]))]) hD hS hA [1] rfl
  refine va_calli (va_runV (As := []) (rest := []) ⟨hx, hb, hml, hown, ht⟩ (k_X15_thrown_v2 l D g z0 _ a) (cwV 0 ht (gV w_772 w_774 w_775 w_334 w_773) rfl rfl rfl (by decide +kernel) (le2 rfl rfl)) ⟨PP.blind, va_recv hK.1 hP (ci := 21) (q0 := 1) rfl rfl, PP.mk' hK hZ hz hAz hS hPc hDc⟩ rfl rfl hl.1 rfl (lv_room (Nat.le_of_ble_eq_true rfl)) dL_law_1850 (le2 rfl rfl)) hS (fun q _ h => hFc q h) hFc (fun r u t H locs ht1 hvm hw hB hz1 hk1 hS => ?_)
  obtain ⟨rfl, hw⟩ := hw
  obtain ⟨hP1, hD1⟩ := hB
  rw [ht1] at hP1
  obtain ⟨hP, hD⟩ := va_join (wr := [(o1, .inl (g 1, 1, .inr (.inl (fun _ => 0))))]) (w1 := [((a 200), .inr (21, [.int 1, .ref (a 201), .ref (a 202), .ref (a 203), .ref (a 204), .ref (a 205), .ref (a 206), .int 0, .int 0, .int 0, .int 0, .ref (a 208), .ref (a 209), .ref (a 210), .ref (a 211), .ref (a 212), .int 4, .int 12, .int (-1), .int 0, .ref (g 200), .ref (a 213), .int 0, .int 97, .ref (a 214), .ref (a 215), .ref (a 207), .null, .int 0]))]) hP hD [1] [0] rfl rfl (by decide) (by decide) hk1 hFc hP1 hD1
  have hP : va_P D vwCl [(o1, .inl (g 1, 1, .inr (.inl (fun _ => 0)))), ((a 200), .inr (21, [.int 1, .ref (a 201), .ref (a 202), .ref (a 203), .ref (a 204), .ref (a 205), .ref (a 206), .int 0, .int 0, .int 0, .int 0, .ref (a 208), .ref (a 209), .ref (a 210), .ref (a 211), .ref (a 212), .int 4, .int 12, .int (-1), .int 0, .ref (g 200), .ref (a 213), .int 0, .int 97, .ref (a 214), .ref (a 215), .ref (a 207), .null, .int 0]))] H := hP
  have hD : va_D (va_A [] s.heap.size) [(o1, .inl (g 1, 1, .inr (.inl (fun _ => 0)))), ((a 200), .inr (21, [.int 1, .ref (a 201), .ref (a 202), .ref (a 203), .ref (a 204), .ref (a 205), .ref (a 206), .int 0, .int 0, .int 0, .int 0, .ref (a 208), .ref (a 209), .ref (a 210), .ref (a 211), .ref (a 212), .int 4, .int 12, .int (-1), .int 0, .ref (g 200), .ref (a 213), .int 0, .int 97, .ref (a 214), .ref (a 215), .ref (a 207), .null, .int 0]))] := hD
  refine lv_iload hx hb dL_law_1853 (lv_at hl 1 rfl) ?_
  refine lv_icmp_eq (tgt := 1860) hx hb dL_law_1855 (by decide) (fun c_1 => ?_) (fun c_1 => ?_)
  · refine lv_iload hx hb dL_law_1860 (lv_at hl 1 rfl) ?_
    refine lv_if_ne (tgt := 1877) hx hb dL_law_1862 (by decide) (fun c_2 => ?_) (fun c_2 => ?_)
    · refine lv_goto (tgt := 4264) hx hb dL_law_1877 (by decide) ?_
      refine W.widen (k := 200 + 300) (n := 8000 + 2000) (Nat.le_of_ble_eq_true rfl) (Nat.le_of_ble_eq_true rfl) ?_
      exact kk _ _ _ hS (lv_sub hl [7, 2] rfl)
    · exact absurd c_2 (by decide)
  · exact absurd c_1 (by decide)
set_option maxHeartbeats 4000000 in
set_option maxRecDepth 100000 in
theorem lw_case_27 {p : Program} {l : Launch} {e : Env} {s : State} {m : MethodId} {below : List Frame} {meth : Method} {c : Code} {H : Heap} {locs : List Loc} {ls : Array Slot} {Q : State → Prop} {D : va_G} {g : Nat → ClassId} {z0 b : Nat} {xs : Nat → Int32} {a : Nat → Nat} {o1 o2 : Nat} (hfl : l.stackTraces = false) (hx : p.tables.exec = Jvm.exec) (hb : c.code = cL_law) (hml : c.maxLocals = 9) (hown : s.vm.findClass RL = some m.cls) (ht : ∀ w ∈ TG, w.before #[Value.ref b] s = true) (hX : va_X b 6 xs s s.heap) (hbl : b < s.heap.size) (hbA : ¬ va_A [] s.heap.size b) (hK : KK D g s) (hZ : ZZ g z0 s) (hz : z0 ≤ s.heap.size) (hAz : ∀ q, va_A [] s.heap.size q → z0 ≤ q) (hP : va_P D vwCl (lwW a g o1 o2) H) (hD : va_D (va_A [] s.heap.size) (lwW a g o1 o2)) (hS : va_S (va_A [] s.heap.size) s.heap H locs) (hl : lv_has ls 9 [(0, .ref b), (1, .ref (a 0)), (2, .ref (a 200)), (3, .ref o1), (4, .ref o2), (5, .int 0)])
    (kk : ∀ (H : Heap) (locs : List Loc) (ls : Array Slot), va_S (va_A [] s.heap.size) s.heap H locs → lv_has ls 9 [(5, .int 0), (0, .ref b)] → W p l e room_1 s m #[Value.ref b] below meth c H locs (200 + 300) (8000 + 2000) Q (F0 m 4264 ls [])) :
    W p l e room_1 s m #[Value.ref b] below meth c H locs 200 8000 Q (F0 m 1880 ls []) := by
  have hA : ∀ q : Nat, s.heap.size ≤ q → va_A [] s.heap.size q := Anw
  have hP := hP.sub (ws' := [((a 0), f_x a), ((a 3), f_rows a), ((a 200), f_m a g), ((a 206), .inr (5, [.int 0, .ref (g 100), .int 0])), (o1, .inl (g 1, 1, .inr (.inl (fun _ => 0))))]) [0, 7, 26, 32, 61] rfl
  have hD := hD.sub (ws' := [((a 0), f_x a), ((a 3), f_rows a), ((a 200), f_m a g), ((a 206), .inr (5, [.int 0, .ref (g 100), .int 0])), (o1, .inl (g 1, 1, .inr (.inl (fun _ => 0))))]) [0, 7, 26, 32, 61] (by decide) rfl
  refine lv_aload_n hx hb dL_law_1880 rfl (lv_at hl 1 rfl) ?_
  refine lv_aload_n hx hb dL_law_1881 rfl (lv_at hl 0 rfl) ?_
  refine lv_iload hx hb dL_law_1882 (lv_at hl 5 rfl) ?_
  refine lv_iconst (v := 1) hx hb dL_law_1884 (by decide) ?_
  refine lv_iadd hx hb dL_law_1885 ?_
  refine r_topi (v := 1) (by decide) ?_
  refine va_sld hx hb hX hbl hbA hS (by unfold vp_in; decide) dL_law_1886 ?_
  refine r_topi (v := xs 1) (congrArg xs (by decide)) ?_
  refine lv_aload_n hx hb dL_law_1887 rfl (lv_at hl 3 rfl) ?_
  have hPc : va_P D vwCl [(o1, .inl (g 1, 1, .inr (.inl (fun _ => 0)))), ((a 0), f_x a), ((a 3), f_rows a)] _ := hP.sub (ws' := [(o1, .inl (g 1, 1, .inr (.inl (fun _ => 0)))), ((a 0), f_x a), ((a 3), f_rows a)]) [4, 0, 1] rfl
  have hDc : va_D (fun q => z0 ≤ q) [(o1, .inl (g 1, 1, .inr (.inl (fun _ => 0)))), ((a 0), f_x a), ((a 3), f_rows a)] := (hD.to hAz).pick (ws' := [(o1, .inl (g 1, 1, .inr (.inl (fun _ => 0)))), ((a 0), f_x a), ((a 3), f_rows a)]) [4, 0, 1] (by decide) rfl
  have hFc := va_free (wc := [(o1, .inl (g 1, 1, .inr (.inl (fun _ => 0)))), ((a 0), f_x a), ((a 3), f_rows a)]) hD hS hA [4, 0, 1] rfl
  refine va_calli (vx_runSW (As := [.ref (a 0), .int (xs 1), .ref o1]) (rest := []) ⟨hx, hb, hml, hown, ht⟩ (k_L_power l hfl D g z0 _ a (xs 1) o1) (vx_cwSW 3 ht (gS w_954 w_956 w_767 w_955) rfl rfl rfl (by decide +kernel) (le2 rfl rfl)) ⟨PP.blind, PP.mk' hK hZ hz hAz hS hPc hDc⟩ rfl rfl hl.1 rfl (lv_room (Nat.le_of_ble_eq_true rfl)) dL_law_1888 (le2 rfl rfl)) hS (fun q _ h => hFc q h) hFc (fun r u t H locs ht1 hvm hw hB hz1 hk1 hS => ?_)
  obtain ⟨rfl, hw⟩ := hw
  obtain ⟨hP1, hD1⟩ := hB
  rw [ht1] at hP1
  obtain ⟨hP, hD⟩ := va_join (wr := [((a 200), f_m a g), ((a 206), .inr (5, [.int 0, .ref (g 100), .int 0]))]) (w1 := [(o1, .inl (g 1, 1, .inr (.inl (fun _ => 0))))]) hP hD [4, 0, 1] [2, 3] rfl rfl (by decide) (by decide) hk1 hFc hP1 hD1
  have hP : va_P D vwCl [((a 200), f_m a g), ((a 206), .inr (5, [.int 0, .ref (g 100), .int 0])), (o1, .inl (g 1, 1, .inr (.inl (fun _ => 0))))] H := hP
  have hD : va_D (va_A [] s.heap.size) [((a 200), f_m a g), ((a 206), .inr (5, [.int 0, .ref (g 100), .int 0])), (o1, .inl (g 1, 1, .inr (.inl (fun _ => 0))))] := hD
  refine lv_istore (lv' := [(6, .int 1), (0, .ref b), (1, .ref (a 0)), (2, .ref (a 200)), (3, .ref o1), (4, .ref o2), (5, .int 0)]) hx hb dL_law_1891 hl (by decide) rfl (fun ls hl => ?_)
  refine lv_aload_n hx hb dL_law_1893 rfl (lv_at hl 3 rfl) ?_
  refine lv_aload_n hx hb dL_law_1894 rfl (lv_at hl 1 rfl) ?_
  refine lv_iload hx hb dL_law_1895 (lv_at hl 6 rfl) ?_
  refine lv_iconst (v := 1) hx hb dL_law_1897 (by decide) ?_
  refine lv_iadd hx hb dL_law_1898 ?_
  refine r_topi (v := 1) (by decide) ?_
  refine va_sld hx hb hX hbl hbA hS (by unfold vp_in; decide) dL_law_1899 ?_
  refine r_topi (v := xs 1) (congrArg xs (by decide)) ?_
  have hPc : va_P D vwCl [((a 200), f_m a g), ((a 206), .inr (5, [.int 0, .ref (g 100), .int 0]))] _ := hP.sub (ws' := [((a 200), f_m a g), ((a 206), .inr (5, [.int 0, .ref (g 100), .int 0]))]) [0, 1] rfl
  have hDc : va_D (fun q => z0 ≤ q) [((a 200), f_m a g), ((a 206), .inr (5, [.int 0, .ref (g 100), .int 0]))] := (hD.to hAz).pick (ws' := [((a 200), f_m a g), ((a 206), .inr (5, [.int 0, .ref (g 100), .int 0]))]) [0, 1] (by decide) rfl
  have hFc := va_free (wc := [((a 200), f_m a g), ((a 206), .inr (5, [.int 0, .ref (g 100), .int 0]))]) hD hS hA [0, 1] rfl
  refine va_calli (va_runV (As := [.int (xs 1)]) (rest := []) ⟨hx, hb, hml, hown, ht⟩ (k_X15_power l D g z0 _ a (xs 1)) (cwV 1 ht (gV w_957 w_959 w_960 w_334 w_958) rfl rfl rfl (by decide +kernel) (le2 rfl rfl)) ⟨PP.blind, va_recv hK.1 hP (ci := 21) (q0 := 0) rfl rfl, PP.mk' hK hZ hz hAz hS hPc hDc⟩ rfl rfl hl.1 rfl (lv_room (Nat.le_of_ble_eq_true rfl)) dL_law_1900 (le2 rfl rfl)) hS (fun q _ h => hFc q h) hFc (fun r u t H locs ht1 hvm hw hB hz1 hk1 hS => ?_)
  obtain ⟨rfl, hw⟩ := hw
  obtain ⟨hP1, hD1⟩ := hB
  rw [ht1] at hP1
  obtain ⟨hP, hD⟩ := va_join (wr := [(o1, .inl (g 1, 1, .inr (.inl (fun _ => 0))))]) (w1 := [((a 200), .inr (21, [.int 1, .ref (a 201), .ref (a 202), .ref (a 203), .ref (a 204), .ref (a 205), .ref (a 206), .int 0, .int 0, .int 0, .int 0, .ref (a 208), .ref (a 209), .ref (a 210), .ref (a 211), .ref (a 212), .int 4, .int 12, .int (-1), .int 0, .ref (g 200), .ref (a 213), .int 0, .int 97, .ref (a 214), .ref (a 215), .ref (a 207), .null, .int 0]))]) hP hD [0, 1] [2] rfl rfl (by decide) (by decide) hk1 hFc hP1 hD1
  have hP : va_P D vwCl [(o1, .inl (g 1, 1, .inr (.inl (fun _ => 0)))), ((a 200), .inr (21, [.int 1, .ref (a 201), .ref (a 202), .ref (a 203), .ref (a 204), .ref (a 205), .ref (a 206), .int 0, .int 0, .int 0, .int 0, .ref (a 208), .ref (a 209), .ref (a 210), .ref (a 211), .ref (a 212), .int 4, .int 12, .int (-1), .int 0, .ref (g 200), .ref (a 213), .int 0, .int 97, .ref (a 214), .ref (a 215), .ref (a 207), .null, .int 0]))] H := hP
  have hD : va_D (va_A [] s.heap.size) [(o1, .inl (g 1, 1, .inr (.inl (fun _ => 0)))), ((a 200), .inr (21, [.int 1, .ref (a 201), .ref (a 202), .ref (a 203), .ref (a 204), .ref (a 205), .ref (a 206), .int 0, .int 0, .int 0, .int 0, .ref (a 208), .ref (a 209), .ref (a 210), .ref (a 211), .ref (a 212), .int 4, .int 12, .int (-1), .int 0, .ref (g 200), .ref (a 213), .int 0, .int 97, .ref (a 214), .ref (a 215), .ref (a 207), .null, .int 0]))] := hD
  refine lv_istore (lv' := [(7, .int 0), (6, .int 1), (0, .ref b), (1, .ref (a 0)), (2, .ref (a 200)), (3, .ref o1), (4, .ref o2), (5, .int 0)]) hx hb dL_law_1903 hl (by decide) rfl (fun ls hl => ?_)
  refine lv_aload_n hx hb dL_law_1905 rfl (lv_at hl 4 rfl) ?_
  have hPc : va_P D vwCl [((a 200), .inr (21, [.int 1, .ref (a 201), .ref (a 202), .ref (a 203), .ref (a 204), .ref (a 205), .ref (a 206), .int 0, .int 0, .int 0, .int 0, .ref (a 208), .ref (a 209), .ref (a 210), .ref (a 211), .ref (a 212), .int 4, .int 12, .int (-1), .int 0, .ref (g 200), .ref (a 213), .int 0, .int 97, .ref (a 214), .ref (a 215), .ref (a 207), .null, .int 0]))] _ := hP.sub (ws' := [((a 200), .inr (21, [.int 1, .ref (a 201), .ref (a 202), .ref (a 203), .ref (a 204), .ref (a 205), .ref (a 206), .int 0, .int 0, .int 0, .int 0, .ref (a 208), .ref (a 209), .ref (a 210), .ref (a 211), .ref (a 212), .int 4, .int 12, .int (-1), .int 0, .ref (g 200), .ref (a 213), .int 0, .int 97, .ref (a 214), .ref (a 215), .ref (a 207), .null, .int 0]))]) [1] rfl
  have hDc : va_D (fun q => z0 ≤ q) [((a 200), .inr (21, [.int 1, .ref (a 201), .ref (a 202), .ref (a 203), .ref (a 204), .ref (a 205), .ref (a 206), .int 0, .int 0, .int 0, .int 0, .ref (a 208), .ref (a 209), .ref (a 210), .ref (a 211), .ref (a 212), .int 4, .int 12, .int (-1), .int 0, .ref (g 200), .ref (a 213), .int 0, .int 97, .ref (a 214), .ref (a 215), .ref (a 207), .null, .int 0]))] := (hD.to hAz).pick (ws' := [((a 200), .inr (21, [.int 1, .ref (a 201), .ref (a 202), .ref (a 203), .ref (a 204), .ref (a 205), .ref (a 206), .int 0, .int 0, .int 0, .int 0, .ref (a 208), .ref (a 209), .ref (a 210), .ref (a 211), .ref (a 212), .int 4, .int 12, .int (-1), .int 0, .ref (g 200), .ref (a 213), .int 0, .int 97, .ref (a 214), .ref (a 215), .ref (a 207), .null, .int 0]))]) [1] (by decide) rfl
  have hFc := va_free (wc := [((a 200), .inr (21, [.int 1, .ref (a 201), .ref (a 202), .ref (a 203), .ref (a 204), .ref (a 205), .ref (a 206), .int 0, .int 0, .int 0, .int 0, .ref (a 208), .ref (a 209), .ref (a 210), .ref (a 211), .ref (a 212), .int 4, .int 12, .int (-1), .int 0, .ref (g 200), .ref (a 213), .int 0, .int 97, .ref (a 214), .ref (a 215), .ref (a 207), .null, .int 0]))]) hD hS hA [1] rfl
  refine va_calli (va_runV (As := []) (rest := []) ⟨hx, hb, hml, hown, ht⟩ (k_X15_thrown_v2 l D g z0 _ a) (cwV 0 ht (gV w_772 w_774 w_775 w_334 w_773) rfl rfl rfl (by decide +kernel) (le2 rfl rfl)) ⟨PP.blind, va_recv hK.1 hP (ci := 21) (q0 := 1) rfl rfl, PP.mk' hK hZ hz hAz hS hPc hDc⟩ rfl rfl hl.1 rfl (lv_room (Nat.le_of_ble_eq_true rfl)) dL_law_1906 (le2 rfl rfl)) hS (fun q _ h => hFc q h) hFc (fun r u t H locs ht1 hvm hw hB hz1 hk1 hS => ?_)
  obtain ⟨rfl, hw⟩ := hw
  obtain ⟨hP1, hD1⟩ := hB
  rw [ht1] at hP1
  obtain ⟨hP, hD⟩ := va_join (wr := [(o1, .inl (g 1, 1, .inr (.inl (fun _ => 0))))]) (w1 := [((a 200), .inr (21, [.int 1, .ref (a 201), .ref (a 202), .ref (a 203), .ref (a 204), .ref (a 205), .ref (a 206), .int 0, .int 0, .int 0, .int 0, .ref (a 208), .ref (a 209), .ref (a 210), .ref (a 211), .ref (a 212), .int 4, .int 12, .int (-1), .int 0, .ref (g 200), .ref (a 213), .int 0, .int 97, .ref (a 214), .ref (a 215), .ref (a 207), .null, .int 0]))]) hP hD [1] [0] rfl rfl (by decide) (by decide) hk1 hFc hP1 hD1
  have hP : va_P D vwCl [(o1, .inl (g 1, 1, .inr (.inl (fun _ => 0)))), ((a 200), .inr (21, [.int 1, .ref (a 201), .ref (a 202), .ref (a 203), .ref (a 204), .ref (a 205), .ref (a 206), .int 0, .int 0, .int 0, .int 0, .ref (a 208), .ref (a 209), .ref (a 210), .ref (a 211), .ref (a 212), .int 4, .int 12, .int (-1), .int 0, .ref (g 200), .ref (a 213), .int 0, .int 97, .ref (a 214), .ref (a 215), .ref (a 207), .null, .int 0]))] H := hP
  have hD : va_D (va_A [] s.heap.size) [(o1, .inl (g 1, 1, .inr (.inl (fun _ => 0)))), ((a 200), .inr (21, [.int 1, .ref (a 201), .ref (a 202), .ref (a 203), .ref (a 204), .ref (a 205), .ref (a 206), .int 0, .int 0, .int 0, .int 0, .ref (a 208), .ref (a 209), .ref (a 210), .ref (a 211), .ref (a 212), .int 4, .int 12, .int (-1), .int 0, .ref (g 200), .ref (a 213), .int 0, .int 97, .ref (a 214), .ref (a 215), .ref (a 207), .null, .int 0]))] := hD
  refine lv_iload hx hb dL_law_1909 (lv_at hl 1 rfl) ?_
  refine lv_icmp_eq (tgt := 1916) hx hb dL_law_1911 (by decide) (fun c_1 => ?_) (fun c_1 => ?_)
  · refine lv_iload hx hb dL_law_1916 (lv_at hl 1 rfl) ?_
    refine lv_if_ne (tgt := 1933) hx hb dL_law_1918 (by decide) (fun c_2 => ?_) (fun c_2 => ?_)
    · refine lv_goto (tgt := 4264) hx hb dL_law_1933 (by decide) ?_
      refine W.widen (k := 200 + 300) (n := 8000 + 2000) (Nat.le_of_ble_eq_true rfl) (Nat.le_of_ble_eq_true rfl) ?_
      exact kk _ _ _ hS (lv_sub hl [7, 2] rfl)
    · exact absurd c_2 (by decide)
  · exact absurd c_1 (by decide)
set_option maxHeartbeats 4000000 in
set_option maxRecDepth 100000 in
theorem lw_case_28 {p : Program} {l : Launch} {e : Env} {s : State} {m : MethodId} {below : List Frame} {meth : Method} {c : Code} {H : Heap} {locs : List Loc} {ls : Array Slot} {Q : State → Prop} {D : va_G} {g : Nat → ClassId} {z0 b : Nat} {xs : Nat → Int32} {a : Nat → Nat} {o1 o2 : Nat} (hfl : l.stackTraces = false) (hx : p.tables.exec = Jvm.exec) (hb : c.code = cL_law) (hml : c.maxLocals = 9) (hown : s.vm.findClass RL = some m.cls) (ht : ∀ w ∈ TG, w.before #[Value.ref b] s = true) (hX : va_X b 6 xs s s.heap) (hbl : b < s.heap.size) (hbA : ¬ va_A [] s.heap.size b) (hK : KK D g s) (hZ : ZZ g z0 s) (hz : z0 ≤ s.heap.size) (hAz : ∀ q, va_A [] s.heap.size q → z0 ≤ q) (hP : va_P D vwCl (lwW a g o1 o2) H) (hD : va_D (va_A [] s.heap.size) (lwW a g o1 o2)) (hS : va_S (va_A [] s.heap.size) s.heap H locs) (hl : lv_has ls 9 [(0, .ref b), (1, .ref (a 0)), (2, .ref (a 200)), (3, .ref o1), (4, .ref o2), (5, .int 0)])
    (kk : ∀ (H : Heap) (locs : List Loc) (ls : Array Slot), va_S (va_A [] s.heap.size) s.heap H locs → lv_has ls 9 [(5, .int 0), (0, .ref b)] → W p l e room_1 s m #[Value.ref b] below meth c H locs (200 + 300) (8000 + 2000) Q (F0 m 4264 ls [])) :
    W p l e room_1 s m #[Value.ref b] below meth c H locs 200 8000 Q (F0 m 1936 ls []) := by
  have hA : ∀ q : Nat, s.heap.size ≤ q → va_A [] s.heap.size q := Anw
  have hP := hP.sub (ws' := [((a 0), f_x a), ((a 3), f_rows a), ((a 200), f_m a g), ((a 206), .inr (5, [.int 0, .ref (g 100), .int 0]))]) [0, 7, 26, 32] rfl
  have hD := hD.sub (ws' := [((a 0), f_x a), ((a 3), f_rows a), ((a 200), f_m a g), ((a 206), .inr (5, [.int 0, .ref (g 100), .int 0]))]) [0, 7, 26, 32] (by decide) rfl
  refine lv_aload_n hx hb dL_law_1936 rfl (lv_at hl 1 rfl) ?_
  have hPc : va_P D vwCl [((a 0), f_x a), ((a 3), f_rows a)] _ := hP.sub (ws' := [((a 0), f_x a), ((a 3), f_rows a)]) [0, 1] rfl
  have hDc : va_D (fun q => z0 ≤ q) [((a 0), f_x a), ((a 3), f_rows a)] := (hD.to hAz).pick (ws' := [((a 0), f_x a), ((a 3), f_rows a)]) [0, 1] (by decide) rfl
  have hFc := AnA (ws := []) hS.1
  refine va_calli (va_runV (As := []) (rest := []) ⟨hx, hb, hml, hown, ht⟩ (k_X11_patterns l D g z0 _ a) (cwV 0 ht (gV w_961 w_963 w_964 w_31 w_962) rfl rfl rfl (by decide +kernel) (le2 rfl rfl)) ⟨PP.blind, va_recv hK.1 hP (ci := 17) (q0 := 0) rfl rfl, PP.mk' hK hZ hz hAz hS hPc hDc⟩ rfl rfl hl.1 rfl (lv_room (Nat.le_of_ble_eq_true rfl)) dL_law_1937 (le2 rfl rfl)) hS (fun q _ h => hFc q h) hFc (fun r u t H locs ht1 hvm hw hB hz1 hk1 hS => ?_)
  obtain ⟨rfl, hw⟩ := hw
  have hP := ro1 hP hk1
  refine lv_aload_n hx hb dL_law_1940 rfl (lv_at hl 2 rfl) ?_
  have hPc : va_P D vwCl [((a 200), f_m a g), ((a 206), .inr (5, [.int 0, .ref (g 100), .int 0]))] _ := hP.sub (ws' := [((a 200), f_m a g), ((a 206), .inr (5, [.int 0, .ref (g 100), .int 0]))]) [2, 3] rfl
  have hDc : va_D (fun q => z0 ≤ q) [((a 200), f_m a g), ((a 206), .inr (5, [.int 0, .ref (g 100), .int 0]))] := (hD.to hAz).pick (ws' := [((a 200), f_m a g), ((a 206), .inr (5, [.int 0, .ref (g 100), .int 0]))]) [2, 3] (by decide) rfl
  have hFc := va_free (wc := [((a 200), f_m a g), ((a 206), .inr (5, [.int 0, .ref (g 100), .int 0]))]) hD hS hA [2, 3] rfl
  refine va_calli (va_runV (As := []) (rest := [.int 0]) ⟨hx, hb, hml, hown, ht⟩ (k_X15_patterns l D g z0 _ a) (cwV 0 ht (gV w_965 w_967 w_968 w_334 w_966) rfl rfl rfl (by decide +kernel) (le2 rfl rfl)) ⟨PP.blind, va_recv hK.1 hP (ci := 21) (q0 := 2) rfl rfl, PP.mk' hK hZ hz hAz hS hPc hDc⟩ rfl rfl hl.1 rfl (lv_room (Nat.le_of_ble_eq_true rfl)) dL_law_1941 (le2 rfl rfl)) hS (fun q _ h => hFc q h) hFc (fun r u t H locs ht1 hvm hw hB hz1 hk1 hS => ?_)
  obtain ⟨rfl, hw⟩ := hw
  obtain ⟨hP1, hD1⟩ := hB
  rw [ht1] at hP1
  obtain ⟨hP, hD⟩ := va_join (wr := [((a 0), f_x a), ((a 3), f_rows a)]) (w1 := [((a 200), f_m a g)]) hP hD [2, 3] [0, 1] rfl rfl (by decide) (by decide) hk1 hFc hP1 hD1
  have hP : va_P D vwCl [((a 0), f_x a), ((a 3), f_rows a), ((a 200), f_m a g)] H := hP
  have hD : va_D (va_A [] s.heap.size) [((a 0), f_x a), ((a 3), f_rows a), ((a 200), f_m a g)] := hD
  refine lv_icmp_eq (tgt := 4264) hx hb dL_law_1944 (by decide) (fun c_1 => ?_) (fun c_1 => ?_)
  · refine W.widen (k := 200 + 300) (n := 8000 + 2000) (Nat.le_of_ble_eq_true rfl) (Nat.le_of_ble_eq_true rfl) ?_
    exact kk _ _ _ hS (lv_sub hl [5, 0] rfl)
  · exact absurd c_1 (by decide)
set_option maxHeartbeats 4000000 in
set_option maxRecDepth 100000 in
theorem k_X15_known_v1 (l : Launch) (D : va_G) (g : Nat → ClassId) (z0 sz : Nat) (a : Nat → Nat) (p0 : Int32) : Met l yX15_known (.code yX15_known cX15_known 6 (some .int) :: TG) (rmk 2 0 0 43) (va_Pc [.ref (a 200), .int p0, .int 0] (PP D g z0 sz [((a 200), f_m a g), ((a 206), .inr (5, [.int 0, .ref (g 100), .int 0]))])) (va_Qi (fun (r : Int32) (u : Unit) => (r = 0) ∧ True) (fun (u : Unit) (t : State) => va_P D vwCl [((a 200), .inr (21, [.int 1, .ref (a 201), .ref (a 202), .ref (a 203), .ref (a 204), .ref (a 205), .ref (a 206), .int 0, .int 0, .int 0, .int 0, .ref (a 208), .ref (a 209), .ref (a 210), .ref (a 211), .ref (a 212), .int 4, .int 12, .int (-1), .int 0, .ref (g 200), .ref (a 213), .int 0, .int 97, .ref (a 214), .ref (a 215), .ref (a 207), .null, .int 0]))] t.heap ∧ va_D (va_A [((a 200), f_m a g), ((a 206), .inr (5, [.int 0, .ref (g 100), .int 0]))] sz) [((a 200), .inr (21, [.int 1, .ref (a 201), .ref (a 202), .ref (a 203), .ref (a 204), .ref (a 205), .ref (a 206), .int 0, .int 0, .int 0, .int 0, .ref (a 208), .ref (a 209), .ref (a 210), .ref (a 211), .ref (a 212), .int 4, .int 12, .int (-1), .int 0, .ref (g 200), .ref (a 213), .int 0, .int 97, .ref (a 214), .ref (a 215), .ref (a 207), .null, .int 0]))]) (va_A [((a 200), f_m a g), ((a 206), .inr (5, [.int 0, .ref (g 100), .int 0]))] sz)) 0 0 (va_A [((a 200), f_m a g), ((a 206), .inr (5, [.int 0, .ref (g 100), .int 0]))] sz) := by
  refine met0 (cc := cX15_known) (n := 6) (by decide) (Nat.le_of_ble_eq_true rfl) ?_
  intro p e s m args below meth c hx hb hr hml hown ht hlocks hnm hP0 hD0 hK hZ hsz hz ls hl
  subst hsz
  have hA : ∀ q : Nat, s.heap.size ≤ q → va_A [((a 200), f_m a g), ((a 206), .inr (5, [.int 0, .ref (g 100), .int 0]))] s.heap.size q := Anw
  have hAz : ∀ q, va_A [((a 200), f_m a g), ((a 206), .inr (5, [.int 0, .ref (g 100), .int 0]))] s.heap.size q → z0 ≤ q := Awz hz hD0
  have hS : va_S (va_A [((a 200), f_m a g), ((a 206), .inr (5, [.int 0, .ref (g 100), .int 0]))] s.heap.size) s.heap s.heap [] := va_S.rf
  have hD : va_D (va_A [((a 200), f_m a g), ((a 206), .inr (5, [.int 0, .ref (g 100), .int 0]))] s.heap.size) [((a 200), f_m a g), ((a 206), .inr (5, [.int 0, .ref (g 100), .int 0]))] := hD0.self
  have hP : va_P D vwCl [((a 200), f_m a g), ((a 206), .inr (5, [.int 0, .ref (g 100), .int 0]))] s.heap := hP0
  have hl : lv_has ls 6 [(0, .ref (a 200)), (1, .int p0), (2, .int 0)] := hl
  refine lv_aload_n hx hb dX15_known_0 rfl (lv_at hl 0 rfl) ?_
  refine lv_aload_n hx hb dX15_known_1 rfl (lv_at hl 0 rfl) ?_
  refine lv_iload_n hx hb dX15_known_2 rfl (lv_at hl 1 rfl) ?_
  have hPc : va_P D vwCl [((a 200), f_m a g), ((a 206), .inr (5, [.int 0, .ref (g 100), .int 0]))] _ := hP.sub (ws' := [((a 200), f_m a g), ((a 206), .inr (5, [.int 0, .ref (g 100), .int 0]))]) [0, 1] rfl
  have hDc : va_D (fun q => z0 ≤ q) [((a 200), f_m a g), ((a 206), .inr (5, [.int 0, .ref (g 100), .int 0]))] := (hD.to hAz).pick (ws' := [((a 200), f_m a g), ((a 206), .inr (5, [.int 0, .ref (g 100), .int 0]))]) [0, 1] (by decide) rfl
  have hFc := AnA (ws := [((a 200), f_m a g), ((a 206), .inr (5, [.int 0, .ref (g 100), .int 0]))]) hS.1
  refine va_calli (va_runV (As := [.int p0]) (rest := [.ref (a 200)]) ⟨hx, hb, hml, hown, ht⟩ (k_X15_isPattern l D g z0 _ a p0) (cwV 1 ht (gV w_498 w_500 w_501 w_334 w_499) rfl rfl rfl (by decide +kernel) (le2 rfl rfl)) ⟨PP.blind, va_recv hK.1 hP (ci := 21) (q0 := 0) rfl rfl, PP.mk' hK hZ hz hAz hS hPc hDc⟩ rfl rfl hl.1 rfl (lv_room (Nat.le_of_ble_eq_true rfl)) dX15_known_3 (le2 rfl rfl)) hS (fun q _ h => hFc q h) hFc (fun r u t H locs ht1 hvm hw hB hz1 hk1 hS => ?_)
  obtain ⟨rfl, hw⟩ := hw
  have hP := ro1 hP hk1
  refine lv_if_eq (tgt := 13) hx hb dX15_known_6 (by decide) (fun c_1 => ?_) (fun c_1 => ?_)
  · refine lv_iconst (v := 1) hx hb dX15_known_13 (by decide) ?_
    have hPc : va_P D vwCl [((a 200), f_m a g)] _ := hP.sub (ws' := [((a 200), f_m a g)]) [0] rfl
    have hDc : va_D (fun q => z0 ≤ q) [((a 200), f_m a g)] := (hD.to hAz).pick (ws' := [((a 200), f_m a g)]) [0] (by decide) rfl
    have hFc := va_free (wc := [((a 200), f_m a g)]) hD hS hA [0] rfl
    refine va_calli (va_runV (As := [.int 1]) (rest := []) ⟨hx, hb, hml, hown, ht⟩ (k_X15_isWrong l D g z0 _ a) (cwV 1 ht (gV w_376 w_378 w_379 w_334 w_377) rfl rfl rfl (by decide +kernel) (le2 rfl rfl)) ⟨PP.blind, va_recv hK.1 hP (ci := 21) (q0 := 0) rfl rfl, PP.mk' hK hZ hz hAz hS hPc hDc⟩ rfl rfl hl.1 rfl (lv_room (Nat.le_of_ble_eq_true rfl)) dX15_known_14 (le2 rfl rfl)) hS (fun q _ h => hFc q h) hFc (fun r u t H locs ht1 hvm hw hB hz1 hk1 hS => ?_)
    obtain ⟨rfl, hw⟩ := hw
    obtain ⟨hP1, hD1⟩ := hB
    rw [ht1] at hP1
    obtain ⟨hP, hD⟩ := va_join (wr := [((a 206), .inr (5, [.int 0, .ref (g 100), .int 0]))]) (w1 := [((a 200), .inr (21, [.int 1, .ref (a 201), .ref (a 202), .ref (a 203), .ref (a 204), .ref (a 205), .ref (a 206), .int 0, .int 0, .int 0, .int 0, .ref (a 208), .ref (a 209), .ref (a 210), .ref (a 211), .ref (a 212), .int 4, .int 12, .int (-1), .int 0, .ref (g 200), .ref (a 213), .int 0, .int 97, .ref (a 214), .ref (a 215), .ref (a 207), .null, .int 0]))]) hP hD [0] [1] rfl rfl (by decide) (by decide) hk1 hFc hP1 hD1
    have hP : va_P D vwCl [((a 206), .inr (5, [.int 0, .ref (g 100), .int 0])), ((a 200), .inr (21, [.int 1, .ref (a 201), .ref (a 202), .ref (a 203), .ref (a 204), .ref (a 205), .ref (a 206), .int 0, .int 0, .int 0, .int 0, .ref (a 208), .ref (a 209), .ref (a 210), .ref (a 211), .ref (a 212), .int 4, .int 12, .int (-1), .int 0, .ref (g 200), .ref (a 213), .int 0, .int 97, .ref (a 214), .ref (a 215), .ref (a 207), .null, .int 0]))] H := hP
    have hD : va_D (va_A [((a 200), f_m a g), ((a 206), .inr (5, [.int 0, .ref (g 100), .int 0]))] s.heap.size) [((a 206), .inr (5, [.int 0, .ref (g 100), .int 0])), ((a 200), .inr (21, [.int 1, .ref (a 201), .ref (a 202), .ref (a 203), .ref (a 204), .ref (a 205), .ref (a 206), .int 0, .int 0, .int 0, .int 0, .ref (a 208), .ref (a 209), .ref (a 210), .ref (a 211), .ref (a 212), .int 4, .int 12, .int (-1), .int 0, .ref (g 200), .ref (a 213), .int 0, .int 97, .ref (a 214), .ref (a 215), .ref (a 207), .null, .int 0]))] := hD
    refine lv_if_eq (tgt := 22) hx hb dX15_known_17 (by decide) (fun c_2 => ?_) (fun c_2 => ?_)
    · exact absurd c_2 (by decide)
    · refine lv_iconst (v := 0) hx hb dX15_known_20 (by decide) ?_
      have hP9 := hP.sub (ws' := [((a 200), .inr (21, [.int 1, .ref (a 201), .ref (a 202), .ref (a 203), .ref (a 204), .ref (a 205), .ref (a 206), .int 0, .int 0, .int 0, .int 0, .ref (a 208), .ref (a 209), .ref (a 210), .ref (a 211), .ref (a 212), .int 4, .int 12, .int (-1), .int 0, .ref (g 200), .ref (a 213), .int 0, .int 97, .ref (a 214), .ref (a 215), .ref (a 207), .null, .int 0]))]) [1] rfl
      have hD9 := hD.sub (ws' := [((a 200), .inr (21, [.int 1, .ref (a 201), .ref (a 202), .ref (a 203), .ref (a 204), .ref (a 205), .ref (a 206), .int 0, .int 0, .int 0, .int 0, .ref (a 208), .ref (a 209), .ref (a 210), .ref (a 211), .ref (a 212), .int 4, .int 12, .int (-1), .int 0, .ref (g 200), .ref (a 213), .int 0, .int 97, .ref (a 214), .ref (a 215), .ref (a 207), .null, .int 0]))]) [1] (by decide) rfl
      refine W.widen (k := 0) (n := 0) (Nat.le_of_ble_eq_true rfl) (Nat.le_of_ble_eq_true rfl) ?_
      exact W.iret (v := 0) hx hb hr (fun t ht9 hW9 => ⟨⟨0, (), rfl, ⟨rfl, trivial⟩, ⟨(by rw [ht9]; exact hP9), hD9⟩⟩, hS.F ht9⟩) hS.2.2 dX15_known_21 hlocks
  · exact absurd c_1 (by decide)
set_option maxHeartbeats 4000000 in
set_option maxRecDepth 100000 in
theorem k_X15_known_v2 (l : Launch) (D : va_G) (g : Nat → ClassId) (z0 sz : Nat) (a : Nat → Nat) (p0 : Int32) : Met l yX15_known (.code yX15_known cX15_known 6 (some .int) :: TG) (rmk 2 0 0 43) (va_Pc [.ref (a 200), .int p0, .int 1] (PP D g z0 sz [((a 200), f_m a g), ((a 206), .inr (5, [.int 0, .ref (g 100), .int 0]))])) (va_Qi (fun (r : Int32) (u : Unit) => (r = 0) ∧ True) (fun (u : Unit) (t : State) => va_P D vwCl [((a 200), .inr (21, [.int 1, .ref (a 201), .ref (a 202), .ref (a 203), .ref (a 204), .ref (a 205), .ref (a 206), .int 0, .int 0, .int 0, .int 0, .ref (a 208), .ref (a 209), .ref (a 210), .ref (a 211), .ref (a 212), .int 4, .int 12, .int (-1), .int 0, .ref (g 200), .ref (a 213), .int 0, .int 97, .ref (a 214), .ref (a 215), .ref (a 207), .null, .int 0]))] t.heap ∧ va_D (va_A [((a 200), f_m a g), ((a 206), .inr (5, [.int 0, .ref (g 100), .int 0]))] sz) [((a 200), .inr (21, [.int 1, .ref (a 201), .ref (a 202), .ref (a 203), .ref (a 204), .ref (a 205), .ref (a 206), .int 0, .int 0, .int 0, .int 0, .ref (a 208), .ref (a 209), .ref (a 210), .ref (a 211), .ref (a 212), .int 4, .int 12, .int (-1), .int 0, .ref (g 200), .ref (a 213), .int 0, .int 97, .ref (a 214), .ref (a 215), .ref (a 207), .null, .int 0]))]) (va_A [((a 200), f_m a g), ((a 206), .inr (5, [.int 0, .ref (g 100), .int 0]))] sz)) 0 0 (va_A [((a 200), f_m a g), ((a 206), .inr (5, [.int 0, .ref (g 100), .int 0]))] sz) := by
  refine met0 (cc := cX15_known) (n := 6) (by decide) (Nat.le_of_ble_eq_true rfl) ?_
  intro p e s m args below meth c hx hb hr hml hown ht hlocks hnm hP0 hD0 hK hZ hsz hz ls hl
  subst hsz
  have hA : ∀ q : Nat, s.heap.size ≤ q → va_A [((a 200), f_m a g), ((a 206), .inr (5, [.int 0, .ref (g 100), .int 0]))] s.heap.size q := Anw
  have hAz : ∀ q, va_A [((a 200), f_m a g), ((a 206), .inr (5, [.int 0, .ref (g 100), .int 0]))] s.heap.size q → z0 ≤ q := Awz hz hD0
  have hS : va_S (va_A [((a 200), f_m a g), ((a 206), .inr (5, [.int 0, .ref (g 100), .int 0]))] s.heap.size) s.heap s.heap [] := va_S.rf
  have hD : va_D (va_A [((a 200), f_m a g), ((a 206), .inr (5, [.int 0, .ref (g 100), .int 0]))] s.heap.size) [((a 200), f_m a g), ((a 206), .inr (5, [.int 0, .ref (g 100), .int 0]))] := hD0.self
  have hP : va_P D vwCl [((a 200), f_m a g), ((a 206), .inr (5, [.int 0, .ref (g 100), .int 0]))] s.heap := hP0
  have hl : lv_has ls 6 [(0, .ref (a 200)), (1, .int p0), (2, .int 1)] := hl
  refine lv_aload_n hx hb dX15_known_0 rfl (lv_at hl 0 rfl) ?_
  refine lv_aload_n hx hb dX15_known_1 rfl (lv_at hl 0 rfl) ?_
  refine lv_iload_n hx hb dX15_known_2 rfl (lv_at hl 1 rfl) ?_
  have hPc : va_P D vwCl [((a 200), f_m a g), ((a 206), .inr (5, [.int 0, .ref (g 100), .int 0]))] _ := hP.sub (ws' := [((a 200), f_m a g), ((a 206), .inr (5, [.int 0, .ref (g 100), .int 0]))]) [0, 1] rfl
  have hDc : va_D (fun q => z0 ≤ q) [((a 200), f_m a g), ((a 206), .inr (5, [.int 0, .ref (g 100), .int 0]))] := (hD.to hAz).pick (ws' := [((a 200), f_m a g), ((a 206), .inr (5, [.int 0, .ref (g 100), .int 0]))]) [0, 1] (by decide) rfl
  have hFc := AnA (ws := [((a 200), f_m a g), ((a 206), .inr (5, [.int 0, .ref (g 100), .int 0]))]) hS.1
  refine va_calli (va_runV (As := [.int p0]) (rest := [.ref (a 200)]) ⟨hx, hb, hml, hown, ht⟩ (k_X15_isPattern l D g z0 _ a p0) (cwV 1 ht (gV w_498 w_500 w_501 w_334 w_499) rfl rfl rfl (by decide +kernel) (le2 rfl rfl)) ⟨PP.blind, va_recv hK.1 hP (ci := 21) (q0 := 0) rfl rfl, PP.mk' hK hZ hz hAz hS hPc hDc⟩ rfl rfl hl.1 rfl (lv_room (Nat.le_of_ble_eq_true rfl)) dX15_known_3 (le2 rfl rfl)) hS (fun q _ h => hFc q h) hFc (fun r u t H locs ht1 hvm hw hB hz1 hk1 hS => ?_)
  obtain ⟨rfl, hw⟩ := hw
  have hP := ro1 hP hk1
  refine lv_if_eq (tgt := 13) hx hb dX15_known_6 (by decide) (fun c_1 => ?_) (fun c_1 => ?_)
  · refine lv_iconst (v := 1) hx hb dX15_known_13 (by decide) ?_
    have hPc : va_P D vwCl [((a 200), f_m a g)] _ := hP.sub (ws' := [((a 200), f_m a g)]) [0] rfl
    have hDc : va_D (fun q => z0 ≤ q) [((a 200), f_m a g)] := (hD.to hAz).pick (ws' := [((a 200), f_m a g)]) [0] (by decide) rfl
    have hFc := va_free (wc := [((a 200), f_m a g)]) hD hS hA [0] rfl
    refine va_calli (va_runV (As := [.int 1]) (rest := []) ⟨hx, hb, hml, hown, ht⟩ (k_X15_isWrong l D g z0 _ a) (cwV 1 ht (gV w_376 w_378 w_379 w_334 w_377) rfl rfl rfl (by decide +kernel) (le2 rfl rfl)) ⟨PP.blind, va_recv hK.1 hP (ci := 21) (q0 := 0) rfl rfl, PP.mk' hK hZ hz hAz hS hPc hDc⟩ rfl rfl hl.1 rfl (lv_room (Nat.le_of_ble_eq_true rfl)) dX15_known_14 (le2 rfl rfl)) hS (fun q _ h => hFc q h) hFc (fun r u t H locs ht1 hvm hw hB hz1 hk1 hS => ?_)
    obtain ⟨rfl, hw⟩ := hw
    obtain ⟨hP1, hD1⟩ := hB
    rw [ht1] at hP1
    obtain ⟨hP, hD⟩ := va_join (wr := [((a 206), .inr (5, [.int 0, .ref (g 100), .int 0]))]) (w1 := [((a 200), .inr (21, [.int 1, .ref (a 201), .ref (a 202), .ref (a 203), .ref (a 204), .ref (a 205), .ref (a 206), .int 0, .int 0, .int 0, .int 0, .ref (a 208), .ref (a 209), .ref (a 210), .ref (a 211), .ref (a 212), .int 4, .int 12, .int (-1), .int 0, .ref (g 200), .ref (a 213), .int 0, .int 97, .ref (a 214), .ref (a 215), .ref (a 207), .null, .int 0]))]) hP hD [0] [1] rfl rfl (by decide) (by decide) hk1 hFc hP1 hD1
    have hP : va_P D vwCl [((a 206), .inr (5, [.int 0, .ref (g 100), .int 0])), ((a 200), .inr (21, [.int 1, .ref (a 201), .ref (a 202), .ref (a 203), .ref (a 204), .ref (a 205), .ref (a 206), .int 0, .int 0, .int 0, .int 0, .ref (a 208), .ref (a 209), .ref (a 210), .ref (a 211), .ref (a 212), .int 4, .int 12, .int (-1), .int 0, .ref (g 200), .ref (a 213), .int 0, .int 97, .ref (a 214), .ref (a 215), .ref (a 207), .null, .int 0]))] H := hP
    have hD : va_D (va_A [((a 200), f_m a g), ((a 206), .inr (5, [.int 0, .ref (g 100), .int 0]))] s.heap.size) [((a 206), .inr (5, [.int 0, .ref (g 100), .int 0])), ((a 200), .inr (21, [.int 1, .ref (a 201), .ref (a 202), .ref (a 203), .ref (a 204), .ref (a 205), .ref (a 206), .int 0, .int 0, .int 0, .int 0, .ref (a 208), .ref (a 209), .ref (a 210), .ref (a 211), .ref (a 212), .int 4, .int 12, .int (-1), .int 0, .ref (g 200), .ref (a 213), .int 0, .int 97, .ref (a 214), .ref (a 215), .ref (a 207), .null, .int 0]))] := hD
    refine lv_if_eq (tgt := 22) hx hb dX15_known_17 (by decide) (fun c_2 => ?_) (fun c_2 => ?_)
    · exact absurd c_2 (by decide)
    · refine lv_iconst (v := 0) hx hb dX15_known_20 (by decide) ?_
      have hP9 := hP.sub (ws' := [((a 200), .inr (21, [.int 1, .ref (a 201), .ref (a 202), .ref (a 203), .ref (a 204), .ref (a 205), .ref (a 206), .int 0, .int 0, .int 0, .int 0, .ref (a 208), .ref (a 209), .ref (a 210), .ref (a 211), .ref (a 212), .int 4, .int 12, .int (-1), .int 0, .ref (g 200), .ref (a 213), .int 0, .int 97, .ref (a 214), .ref (a 215), .ref (a 207), .null, .int 0]))]) [1] rfl
      have hD9 := hD.sub (ws' := [((a 200), .inr (21, [.int 1, .ref (a 201), .ref (a 202), .ref (a 203), .ref (a 204), .ref (a 205), .ref (a 206), .int 0, .int 0, .int 0, .int 0, .ref (a 208), .ref (a 209), .ref (a 210), .ref (a 211), .ref (a 212), .int 4, .int 12, .int (-1), .int 0, .ref (g 200), .ref (a 213), .int 0, .int 97, .ref (a 214), .ref (a 215), .ref (a 207), .null, .int 0]))]) [1] (by decide) rfl
      refine W.widen (k := 0) (n := 0) (Nat.le_of_ble_eq_true rfl) (Nat.le_of_ble_eq_true rfl) ?_
      exact W.iret (v := 0) hx hb hr (fun t ht9 hW9 => ⟨⟨0, (), rfl, ⟨rfl, trivial⟩, ⟨(by rw [ht9]; exact hP9), hD9⟩⟩, hS.F ht9⟩) hS.2.2 dX15_known_21 hlocks
  · exact absurd c_1 (by decide)
set_option maxHeartbeats 4000000 in
set_option maxRecDepth 100000 in
theorem lw_case_29 {p : Program} {l : Launch} {e : Env} {s : State} {m : MethodId} {below : List Frame} {meth : Method} {c : Code} {H : Heap} {locs : List Loc} {ls : Array Slot} {Q : State → Prop} {D : va_G} {g : Nat → ClassId} {z0 b : Nat} {xs : Nat → Int32} {a : Nat → Nat} {o1 o2 : Nat} (hfl : l.stackTraces = false) (hx : p.tables.exec = Jvm.exec) (hb : c.code = cL_law) (hml : c.maxLocals = 9) (hown : s.vm.findClass RL = some m.cls) (ht : ∀ w ∈ TG, w.before #[Value.ref b] s = true) (hX : va_X b 6 xs s s.heap) (hbl : b < s.heap.size) (hbA : ¬ va_A [] s.heap.size b) (hK : KK D g s) (hZ : ZZ g z0 s) (hz : z0 ≤ s.heap.size) (hAz : ∀ q, va_A [] s.heap.size q → z0 ≤ q) (hP : va_P D vwCl (lwW a g o1 o2) H) (hD : va_D (va_A [] s.heap.size) (lwW a g o1 o2)) (hS : va_S (va_A [] s.heap.size) s.heap H locs) (hl : lv_has ls 9 [(0, .ref b), (1, .ref (a 0)), (2, .ref (a 200)), (3, .ref o1), (4, .ref o2), (5, .int 0)])
    (kk : ∀ (H : Heap) (locs : List Loc) (ls : Array Slot), va_S (va_A [] s.heap.size) s.heap H locs → lv_has ls 9 [(5, .int 0), (0, .ref b)] → W p l e room_1 s m #[Value.ref b] below meth c H locs (200 + 300) (8000 + 2000) Q (F0 m 4264 ls [])) :
    W p l e room_1 s m #[Value.ref b] below meth c H locs 200 8000 Q (F0 m 1949 ls []) := by
  have hA : ∀ q : Nat, s.heap.size ≤ q → va_A [] s.heap.size q := Anw
  have hP := hP.sub (ws' := [((a 0), f_x a), ((a 3), f_rows a), ((a 200), f_m a g), ((a 206), .inr (5, [.int 0, .ref (g 100), .int 0])), (o1, .inl (g 1, 1, .inr (.inl (fun _ => 0))))]) [0, 7, 26, 32, 61] rfl
  have hD := hD.sub (ws' := [((a 0), f_x a), ((a 3), f_rows a), ((a 200), f_m a g), ((a 206), .inr (5, [.int 0, .ref (g 100), .int 0])), (o1, .inl (g 1, 1, .inr (.inl (fun _ => 0))))]) [0, 7, 26, 32, 61] (by decide) rfl
  refine lv_aload_n hx hb dL_law_1949 rfl (lv_at hl 1 rfl) ?_
  refine lv_aload_n hx hb dL_law_1950 rfl (lv_at hl 0 rfl) ?_
  refine lv_iload hx hb dL_law_1951 (lv_at hl 5 rfl) ?_
  refine lv_iconst (v := 1) hx hb dL_law_1953 (by decide) ?_
  refine lv_iadd hx hb dL_law_1954 ?_
  refine r_topi (v := 1) (by decide) ?_
  refine va_sld hx hb hX hbl hbA hS (by unfold vp_in; decide) dL_law_1955 ?_
  refine r_topi (v := xs 1) (congrArg xs (by decide)) ?_
  refine lv_aload_n hx hb dL_law_1956 rfl (lv_at hl 0 rfl) ?_
  refine lv_iload hx hb dL_law_1957 (lv_at hl 5 rfl) ?_
  refine lv_iconst (v := 2) hx hb dL_law_1959 (by decide) ?_
  refine lv_iadd hx hb dL_law_1960 ?_
  refine r_topi (v := 2) (by decide) ?_
  refine va_sld hx hb hX hbl hbA hS (by unfold vp_in; decide) dL_law_1961 ?_
  refine r_topi (v := xs 2) (congrArg xs (by decide)) ?_
  refine lv_if_eq (tgt := 1969) hx hb dL_law_1962 (by decide) (fun c_1 => ?_) (fun c_1 => ?_)
  · refine lv_iconst (v := 0) hx hb dL_law_1969 (by decide) ?_
    refine lv_aload_n hx hb dL_law_1970 rfl (lv_at hl 3 rfl) ?_
    have hPc : va_P D vwCl [(o1, .inl (g 1, 1, .inr (.inl (fun _ => 0)))), ((a 0), f_x a), ((a 3), f_rows a)] _ := hP.sub (ws' := [(o1, .inl (g 1, 1, .inr (.inl (fun _ => 0)))), ((a 0), f_x a), ((a 3), f_rows a)]) [4, 0, 1] rfl
    have hDc : va_D (fun q => z0 ≤ q) [(o1, .inl (g 1, 1, .inr (.inl (fun _ => 0)))), ((a 0), f_x a), ((a 3), f_rows a)] := (hD.to hAz).pick (ws' := [(o1, .inl (g 1, 1, .inr (.inl (fun _ => 0)))), ((a 0), f_x a), ((a 3), f_rows a)]) [4, 0, 1] (by decide) rfl
    have hFc := va_free (wc := [(o1, .inl (g 1, 1, .inr (.inl (fun _ => 0)))), ((a 0), f_x a), ((a 3), f_rows a)]) hD hS hA [4, 0, 1] rfl
    refine va_calli (vx_runSW (As := [.ref (a 0), .int (xs 1), .int 0, .ref o1]) (rest := []) ⟨hx, hb, hml, hown, ht⟩ (k_L_known l hfl D g z0 _ a (xs 1) 0 o1) (vx_cwSW 4 ht (gS w_969 w_971 w_767 w_970) rfl rfl rfl (by decide +kernel) (le2 rfl rfl)) ⟨PP.blind, PP.mk' hK hZ hz hAz hS hPc hDc⟩ rfl rfl hl.1 rfl (lv_room (Nat.le_of_ble_eq_true rfl)) dL_law_1971 (le2 rfl rfl)) hS (fun q _ h => hFc q h) hFc (fun r u t H locs ht1 hvm hw hB hz1 hk1 hS => ?_)
    obtain ⟨rfl, hw⟩ := hw
    obtain ⟨hP1, hD1⟩ := hB
    rw [ht1] at hP1
    obtain ⟨hP, hD⟩ := va_join (wr := [((a 200), f_m a g), ((a 206), .inr (5, [.int 0, .ref (g 100), .int 0]))]) (w1 := [(o1, .inl (g 1, 1, .inr (.inl (fun _ => 0))))]) hP hD [4, 0, 1] [2, 3] rfl rfl (by decide) (by decide) hk1 hFc hP1 hD1
    have hP : va_P D vwCl [((a 200), f_m a g), ((a 206), .inr (5, [.int 0, .ref (g 100), .int 0])), (o1, .inl (g 1, 1, .inr (.inl (fun _ => 0))))] H := hP
    have hD : va_D (va_A [] s.heap.size) [((a 200), f_m a g), ((a 206), .inr (5, [.int 0, .ref (g 100), .int 0])), (o1, .inl (g 1, 1, .inr (.inl (fun _ => 0))))] := hD
    refine lv_istore (lv' := [(6, .int 1), (0, .ref b), (1, .ref (a 0)), (2, .ref (a 200)), (3, .ref o1), (4, .ref o2), (5, .int 0)]) hx hb dL_law_1974 hl (by decide) rfl (fun ls hl => ?_)
    refine lv_aload_n hx hb dL_law_1976 rfl (lv_at hl 3 rfl) ?_
    refine lv_aload_n hx hb dL_law_1977 rfl (lv_at hl 1 rfl) ?_
    refine lv_iload hx hb dL_law_1978 (lv_at hl 6 rfl) ?_
    refine lv_iconst (v := 1) hx hb dL_law_1980 (by decide) ?_
    refine lv_iadd hx hb dL_law_1981 ?_
    refine r_topi (v := 1) (by decide) ?_
    refine va_sld hx hb hX hbl hbA hS (by unfold vp_in; decide) dL_law_1982 ?_
    refine r_topi (v := xs 1) (congrArg xs (by decide)) ?_
    refine lv_aload_n hx hb dL_law_1983 rfl (lv_at hl 1 rfl) ?_
    refine lv_iload hx hb dL_law_1984 (lv_at hl 6 rfl) ?_
    refine lv_iconst (v := 2) hx hb dL_law_1986 (by decide) ?_
    refine lv_iadd hx hb dL_law_1987 ?_
    refine r_topi (v := 2) (by decide) ?_
    refine va_sld hx hb hX hbl hbA hS (by unfold vp_in; decide) dL_law_1988 ?_
    refine r_topi (v := xs 2) (congrArg xs (by decide)) ?_
    refine lv_if_eq (tgt := 1996) hx hb dL_law_1989 (by decide) (fun c_2 => ?_) (fun c_2 => ?_)
    · refine lv_iconst (v := 0) hx hb dL_law_1996 (by decide) ?_
      have hPc : va_P D vwCl [((a 200), f_m a g), ((a 206), .inr (5, [.int 0, .ref (g 100), .int 0]))] _ := hP.sub (ws' := [((a 200), f_m a g), ((a 206), .inr (5, [.int 0, .ref (g 100), .int 0]))]) [0, 1] rfl
      have hDc : va_D (fun q => z0 ≤ q) [((a 200), f_m a g), ((a 206), .inr (5, [.int 0, .ref (g 100), .int 0]))] := (hD.to hAz).pick (ws' := [((a 200), f_m a g), ((a 206), .inr (5, [.int 0, .ref (g 100), .int 0]))]) [0, 1] (by decide) rfl
      have hFc := va_free (wc := [((a 200), f_m a g), ((a 206), .inr (5, [.int 0, .ref (g 100), .int 0]))]) hD hS hA [0, 1] rfl
      refine va_calli (va_runV (As := [.int (xs 1), .int 0]) (rest := []) ⟨hx, hb, hml, hown, ht⟩ (k_X15_known_v1 l D g z0 _ a (xs 1)) (cwV 2 ht (gV w_972 w_974 w_975 w_334 w_973) rfl rfl rfl (by decide +kernel) (le2 rfl rfl)) ⟨PP.blind, va_recv hK.1 hP (ci := 21) (q0 := 0) rfl rfl, PP.mk' hK hZ hz hAz hS hPc hDc⟩ rfl rfl hl.1 rfl (lv_room (Nat.le_of_ble_eq_true rfl)) dL_law_1997 (le2 rfl rfl)) hS (fun q _ h => hFc q h) hFc (fun r u t H locs ht1 hvm hw hB hz1 hk1 hS => ?_)
      obtain ⟨rfl, hw⟩ := hw
      obtain ⟨hP1, hD1⟩ := hB
      rw [ht1] at hP1
      obtain ⟨hP, hD⟩ := va_join (wr := [(o1, .inl (g 1, 1, .inr (.inl (fun _ => 0))))]) (w1 := [((a 200), .inr (21, [.int 1, .ref (a 201), .ref (a 202), .ref (a 203), .ref (a 204), .ref (a 205), .ref (a 206), .int 0, .int 0, .int 0, .int 0, .ref (a 208), .ref (a 209), .ref (a 210), .ref (a 211), .ref (a 212), .int 4, .int 12, .int (-1), .int 0, .ref (g 200), .ref (a 213), .int 0, .int 97, .ref (a 214), .ref (a 215), .ref (a 207), .null, .int 0]))]) hP hD [0, 1] [2] rfl rfl (by decide) (by decide) hk1 hFc hP1 hD1
      have hP : va_P D vwCl [(o1, .inl (g 1, 1, .inr (.inl (fun _ => 0)))), ((a 200), .inr (21, [.int 1, .ref (a 201), .ref (a 202), .ref (a 203), .ref (a 204), .ref (a 205), .ref (a 206), .int 0, .int 0, .int 0, .int 0, .ref (a 208), .ref (a 209), .ref (a 210), .ref (a 211), .ref (a 212), .int 4, .int 12, .int (-1), .int 0, .ref (g 200), .ref (a 213), .int 0, .int 97, .ref (a 214), .ref (a 215), .ref (a 207), .null, .int 0]))] H := hP
      have hD : va_D (va_A [] s.heap.size) [(o1, .inl (g 1, 1, .inr (.inl (fun _ => 0)))), ((a 200), .inr (21, [.int 1, .ref (a 201), .ref (a 202), .ref (a 203), .ref (a 204), .ref (a 205), .ref (a 206), .int 0, .int 0, .int 0, .int 0, .ref (a 208), .ref (a 209), .ref (a 210), .ref (a 211), .ref (a 212), .int 4, .int 12, .int (-1), .int 0, .ref (g 200), .ref (a 213), .int 0, .int 97, .ref (a 214), .ref (a 215), .ref (a 207), .null, .int 0]))] := hD
      refine lv_istore (lv' := [(7, .int 0), (6, .int 1), (0, .ref b), (1, .ref (a 0)), (2, .ref (a 200)), (3, .ref o1), (4, .ref o2), (5, .int 0)]) hx hb dL_law_2000 hl (by decide) rfl (fun ls hl => ?_)
      refine lv_aload_n hx hb dL_law_2002 rfl (lv_at hl 4 rfl) ?_
      have hPc : va_P D vwCl [((a 200), .inr (21, [.int 1, .ref (a 201), .ref (a 202), .ref (a 203), .ref (a 204), .ref (a 205), .ref (a 206), .int 0, .int 0, .int 0, .int 0, .ref (a 208), .ref (a 209), .ref (a 210), .ref (a 211), .ref (a 212), .int 4, .int 12, .int (-1), .int 0, .ref (g 200), .ref (a 213), .int 0, .int 97, .ref (a 214), .ref (a 215), .ref (a 207), .null, .int 0]))] _ := hP.sub (ws' := [((a 200), .inr (21, [.int 1, .ref (a 201), .ref (a 202), .ref (a 203), .ref (a 204), .ref (a 205), .ref (a 206), .int 0, .int 0, .int 0, .int 0, .ref (a 208), .ref (a 209), .ref (a 210), .ref (a 211), .ref (a 212), .int 4, .int 12, .int (-1), .int 0, .ref (g 200), .ref (a 213), .int 0, .int 97, .ref (a 214), .ref (a 215), .ref (a 207), .null, .int 0]))]) [1] rfl
      have hDc : va_D (fun q => z0 ≤ q) [((a 200), .inr (21, [.int 1, .ref (a 201), .ref (a 202), .ref (a 203), .ref (a 204), .ref (a 205), .ref (a 206), .int 0, .int 0, .int 0, .int 0, .ref (a 208), .ref (a 209), .ref (a 210), .ref (a 211), .ref (a 212), .int 4, .int 12, .int (-1), .int 0, .ref (g 200), .ref (a 213), .int 0, .int 97, .ref (a 214), .ref (a 215), .ref (a 207), .null, .int 0]))] := (hD.to hAz).pick (ws' := [((a 200), .inr (21, [.int 1, .ref (a 201), .ref (a 202), .ref (a 203), .ref (a 204), .ref (a 205), .ref (a 206), .int 0, .int 0, .int 0, .int 0, .ref (a 208), .ref (a 209), .ref (a 210), .ref (a 211), .ref (a 212), .int 4, .int 12, .int (-1), .int 0, .ref (g 200), .ref (a 213), .int 0, .int 97, .ref (a 214), .ref (a 215), .ref (a 207), .null, .int 0]))]) [1] (by decide) rfl
      have hFc := va_free (wc := [((a 200), .inr (21, [.int 1, .ref (a 201), .ref (a 202), .ref (a 203), .ref (a 204), .ref (a 205), .ref (a 206), .int 0, .int 0, .int 0, .int 0, .ref (a 208), .ref (a 209), .ref (a 210), .ref (a 211), .ref (a 212), .int 4, .int 12, .int (-1), .int 0, .ref (g 200), .ref (a 213), .int 0, .int 97, .ref (a 214), .ref (a 215), .ref (a 207), .null, .int 0]))]) hD hS hA [1] rfl
      refine va_calli (va_runV (As := []) (rest := []) ⟨hx, hb, hml, hown, ht⟩ (k_X15_thrown_v2 l D g z0 _ a) (cwV 0 ht (gV w_772 w_774 w_775 w_334 w_773) rfl rfl rfl (by decide +kernel) (le2 rfl rfl)) ⟨PP.blind, va_recv hK.1 hP (ci := 21) (q0 := 1) rfl rfl, PP.mk' hK hZ hz hAz hS hPc hDc⟩ rfl rfl hl.1 rfl (lv_room (Nat.le_of_ble_eq_true rfl)) dL_law_2003 (le2 rfl rfl)) hS (fun q _ h => hFc q h) hFc (fun r u t H locs ht1 hvm hw hB hz1 hk1 hS => ?_)
      obtain ⟨rfl, hw⟩ := hw
      obtain ⟨hP1, hD1⟩ := hB
      rw [ht1] at hP1
      obtain ⟨hP, hD⟩ := va_join (wr := [(o1, .inl (g 1, 1, .inr (.inl (fun _ => 0))))]) (w1 := [((a 200), .inr (21, [.int 1, .ref (a 201), .ref (a 202), .ref (a 203), .ref (a 204), .ref (a 205), .ref (a 206), .int 0, .int 0, .int 0, .int 0, .ref (a 208), .ref (a 209), .ref (a 210), .ref (a 211), .ref (a 212), .int 4, .int 12, .int (-1), .int 0, .ref (g 200), .ref (a 213), .int 0, .int 97, .ref (a 214), .ref (a 215), .ref (a 207), .null, .int 0]))]) hP hD [1] [0] rfl rfl (by decide) (by decide) hk1 hFc hP1 hD1
      have hP : va_P D vwCl [(o1, .inl (g 1, 1, .inr (.inl (fun _ => 0)))), ((a 200), .inr (21, [.int 1, .ref (a 201), .ref (a 202), .ref (a 203), .ref (a 204), .ref (a 205), .ref (a 206), .int 0, .int 0, .int 0, .int 0, .ref (a 208), .ref (a 209), .ref (a 210), .ref (a 211), .ref (a 212), .int 4, .int 12, .int (-1), .int 0, .ref (g 200), .ref (a 213), .int 0, .int 97, .ref (a 214), .ref (a 215), .ref (a 207), .null, .int 0]))] H := hP
      have hD : va_D (va_A [] s.heap.size) [(o1, .inl (g 1, 1, .inr (.inl (fun _ => 0)))), ((a 200), .inr (21, [.int 1, .ref (a 201), .ref (a 202), .ref (a 203), .ref (a 204), .ref (a 205), .ref (a 206), .int 0, .int 0, .int 0, .int 0, .ref (a 208), .ref (a 209), .ref (a 210), .ref (a 211), .ref (a 212), .int 4, .int 12, .int (-1), .int 0, .ref (g 200), .ref (a 213), .int 0, .int 97, .ref (a 214), .ref (a 215), .ref (a 207), .null, .int 0]))] := hD
      refine lv_iload hx hb dL_law_2006 (lv_at hl 1 rfl) ?_
      refine lv_icmp_eq (tgt := 2013) hx hb dL_law_2008 (by decide) (fun c_3 => ?_) (fun c_3 => ?_)
      · refine lv_iload hx hb dL_law_2013 (lv_at hl 1 rfl) ?_
        refine lv_if_ne (tgt := 2030) hx hb dL_law_2015 (by decide) (fun c_4 => ?_) (fun c_4 => ?_)
        · refine lv_goto (tgt := 4264) hx hb dL_law_2030 (by decide) ?_
          refine W.widen (k := 200 + 300) (n := 8000 + 2000) (Nat.le_of_ble_eq_true rfl) (Nat.le_of_ble_eq_true rfl) ?_
          exact kk _ _ _ hS (lv_sub hl [7, 2] rfl)
        · exact absurd c_4 (by decide)
      · exact absurd c_3 (by decide)
    · exact absurd c_1 c_2
  · refine lv_iconst (v := 1) hx hb dL_law_1965 (by decide) ?_
    refine lv_goto (tgt := 1970) hx hb dL_law_1966 (by decide) ?_
    refine lv_aload_n hx hb dL_law_1970 rfl (lv_at hl 3 rfl) ?_
    have hPc : va_P D vwCl [(o1, .inl (g 1, 1, .inr (.inl (fun _ => 0)))), ((a 0), f_x a), ((a 3), f_rows a)] _ := hP.sub (ws' := [(o1, .inl (g 1, 1, .inr (.inl (fun _ => 0)))), ((a 0), f_x a), ((a 3), f_rows a)]) [4, 0, 1] rfl
    have hDc : va_D (fun q => z0 ≤ q) [(o1, .inl (g 1, 1, .inr (.inl (fun _ => 0)))), ((a 0), f_x a), ((a 3), f_rows a)] := (hD.to hAz).pick (ws' := [(o1, .inl (g 1, 1, .inr (.inl (fun _ => 0)))), ((a 0), f_x a), ((a 3), f_rows a)]) [4, 0, 1] (by decide) rfl
    have hFc := va_free (wc := [(o1, .inl (g 1, 1, .inr (.inl (fun _ => 0)))), ((a 0), f_x a), ((a 3), f_rows a)]) hD hS hA [4, 0, 1] rfl
    refine va_calli (vx_runSW (As := [.ref (a 0), .int (xs 1), .int 1, .ref o1]) (rest := []) ⟨hx, hb, hml, hown, ht⟩ (k_L_known l hfl D g z0 _ a (xs 1) 1 o1) (vx_cwSW 4 ht (gS w_969 w_971 w_767 w_970) rfl rfl rfl (by decide +kernel) (le2 rfl rfl)) ⟨PP.blind, PP.mk' hK hZ hz hAz hS hPc hDc⟩ rfl rfl hl.1 rfl (lv_room (Nat.le_of_ble_eq_true rfl)) dL_law_1971 (le2 rfl rfl)) hS (fun q _ h => hFc q h) hFc (fun r u t H locs ht1 hvm hw hB hz1 hk1 hS => ?_)
    obtain ⟨rfl, hw⟩ := hw
    obtain ⟨hP1, hD1⟩ := hB
    rw [ht1] at hP1
    obtain ⟨hP, hD⟩ := va_join (wr := [((a 200), f_m a g), ((a 206), .inr (5, [.int 0, .ref (g 100), .int 0]))]) (w1 := [(o1, .inl (g 1, 1, .inr (.inl (fun _ => 0))))]) hP hD [4, 0, 1] [2, 3] rfl rfl (by decide) (by decide) hk1 hFc hP1 hD1
    have hP : va_P D vwCl [((a 200), f_m a g), ((a 206), .inr (5, [.int 0, .ref (g 100), .int 0])), (o1, .inl (g 1, 1, .inr (.inl (fun _ => 0))))] H := hP
    have hD : va_D (va_A [] s.heap.size) [((a 200), f_m a g), ((a 206), .inr (5, [.int 0, .ref (g 100), .int 0])), (o1, .inl (g 1, 1, .inr (.inl (fun _ => 0))))] := hD
    refine lv_istore (lv' := [(6, .int 1), (0, .ref b), (1, .ref (a 0)), (2, .ref (a 200)), (3, .ref o1), (4, .ref o2), (5, .int 0)]) hx hb dL_law_1974 hl (by decide) rfl (fun ls hl => ?_)
    refine lv_aload_n hx hb dL_law_1976 rfl (lv_at hl 3 rfl) ?_
    refine lv_aload_n hx hb dL_law_1977 rfl (lv_at hl 1 rfl) ?_
    refine lv_iload hx hb dL_law_1978 (lv_at hl 6 rfl) ?_
    refine lv_iconst (v := 1) hx hb dL_law_1980 (by decide) ?_
    refine lv_iadd hx hb dL_law_1981 ?_
    refine r_topi (v := 1) (by decide) ?_
    refine va_sld hx hb hX hbl hbA hS (by unfold vp_in; decide) dL_law_1982 ?_
    refine r_topi (v := xs 1) (congrArg xs (by decide)) ?_
    refine lv_aload_n hx hb dL_law_1983 rfl (lv_at hl 1 rfl) ?_
    refine lv_iload hx hb dL_law_1984 (lv_at hl 6 rfl) ?_
    refine lv_iconst (v := 2) hx hb dL_law_1986 (by decide) ?_
    refine lv_iadd hx hb dL_law_1987 ?_
    refine r_topi (v := 2) (by decide) ?_
    refine va_sld hx hb hX hbl hbA hS (by unfold vp_in; decide) dL_law_1988 ?_
    refine r_topi (v := xs 2) (congrArg xs (by decide)) ?_
    refine lv_if_eq (tgt := 1996) hx hb dL_law_1989 (by decide) (fun c_5 => ?_) (fun c_5 => ?_)
    · exact absurd c_5 c_1
    · refine lv_iconst (v := 1) hx hb dL_law_1992 (by decide) ?_
      refine lv_goto (tgt := 1997) hx hb dL_law_1993 (by decide) ?_
      have hPc : va_P D vwCl [((a 200), f_m a g), ((a 206), .inr (5, [.int 0, .ref (g 100), .int 0]))] _ := hP.sub (ws' := [((a 200), f_m a g), ((a 206), .inr (5, [.int 0, .ref (g 100), .int 0]))]) [0, 1] rfl
      have hDc : va_D (fun q => z0 ≤ q) [((a 200), f_m a g), ((a 206), .inr (5, [.int 0, .ref (g 100), .int 0]))] := (hD.to hAz).pick (ws' := [((a 200), f_m a g), ((a 206), .inr (5, [.int 0, .ref (g 100), .int 0]))]) [0, 1] (by decide) rfl
      have hFc := va_free (wc := [((a 200), f_m a g), ((a 206), .inr (5, [.int 0, .ref (g 100), .int 0]))]) hD hS hA [0, 1] rfl
      refine va_calli (va_runV (As := [.int (xs 1), .int 1]) (rest := []) ⟨hx, hb, hml, hown, ht⟩ (k_X15_known_v2 l D g z0 _ a (xs 1)) (cwV 2 ht (gV w_972 w_974 w_975 w_334 w_973) rfl rfl rfl (by decide +kernel) (le2 rfl rfl)) ⟨PP.blind, va_recv hK.1 hP (ci := 21) (q0 := 0) rfl rfl, PP.mk' hK hZ hz hAz hS hPc hDc⟩ rfl rfl hl.1 rfl (lv_room (Nat.le_of_ble_eq_true rfl)) dL_law_1997 (le2 rfl rfl)) hS (fun q _ h => hFc q h) hFc (fun r u t H locs ht1 hvm hw hB hz1 hk1 hS => ?_)
      obtain ⟨rfl, hw⟩ := hw
      obtain ⟨hP1, hD1⟩ := hB
      rw [ht1] at hP1
      obtain ⟨hP, hD⟩ := va_join (wr := [(o1, .inl (g 1, 1, .inr (.inl (fun _ => 0))))]) (w1 := [((a 200), .inr (21, [.int 1, .ref (a 201), .ref (a 202), .ref (a 203), .ref (a 204), .ref (a 205), .ref (a 206), .int 0, .int 0, .int 0, .int 0, .ref (a 208), .ref (a 209), .ref (a 210), .ref (a 211), .ref (a 212), .int 4, .int 12, .int (-1), .int 0, .ref (g 200), .ref (a 213), .int 0, .int 97, .ref (a 214), .ref (a 215), .ref (a 207), .null, .int 0]))]) hP hD [0, 1] [2] rfl rfl (by decide) (by decide) hk1 hFc hP1 hD1
      have hP : va_P D vwCl [(o1, .inl (g 1, 1, .inr (.inl (fun _ => 0)))), ((a 200), .inr (21, [.int 1, .ref (a 201), .ref (a 202), .ref (a 203), .ref (a 204), .ref (a 205), .ref (a 206), .int 0, .int 0, .int 0, .int 0, .ref (a 208), .ref (a 209), .ref (a 210), .ref (a 211), .ref (a 212), .int 4, .int 12, .int (-1), .int 0, .ref (g 200), .ref (a 213), .int 0, .int 97, .ref (a 214), .ref (a 215), .ref (a 207), .null, .int 0]))] H := hP
      have hD : va_D (va_A [] s.heap.size) [(o1, .inl (g 1, 1, .inr (.inl (fun _ => 0)))), ((a 200), .inr (21, [.int 1, .ref (a 201), .ref (a 202), .ref (a 203), .ref (a 204), .ref (a 205), .ref (a 206), .int 0, .int 0, .int 0, .int 0, .ref (a 208), .ref (a 209), .ref (a 210), .ref (a 211), .ref (a 212), .int 4, .int 12, .int (-1), .int 0, .ref (g 200), .ref (a 213), .int 0, .int 97, .ref (a 214), .ref (a 215), .ref (a 207), .null, .int 0]))] := hD
      refine lv_istore (lv' := [(7, .int 0), (6, .int 1), (0, .ref b), (1, .ref (a 0)), (2, .ref (a 200)), (3, .ref o1), (4, .ref o2), (5, .int 0)]) hx hb dL_law_2000 hl (by decide) rfl (fun ls hl => ?_)
      refine lv_aload_n hx hb dL_law_2002 rfl (lv_at hl 4 rfl) ?_
      have hPc : va_P D vwCl [((a 200), .inr (21, [.int 1, .ref (a 201), .ref (a 202), .ref (a 203), .ref (a 204), .ref (a 205), .ref (a 206), .int 0, .int 0, .int 0, .int 0, .ref (a 208), .ref (a 209), .ref (a 210), .ref (a 211), .ref (a 212), .int 4, .int 12, .int (-1), .int 0, .ref (g 200), .ref (a 213), .int 0, .int 97, .ref (a 214), .ref (a 215), .ref (a 207), .null, .int 0]))] _ := hP.sub (ws' := [((a 200), .inr (21, [.int 1, .ref (a 201), .ref (a 202), .ref (a 203), .ref (a 204), .ref (a 205), .ref (a 206), .int 0, .int 0, .int 0, .int 0, .ref (a 208), .ref (a 209), .ref (a 210), .ref (a 211), .ref (a 212), .int 4, .int 12, .int (-1), .int 0, .ref (g 200), .ref (a 213), .int 0, .int 97, .ref (a 214), .ref (a 215), .ref (a 207), .null, .int 0]))]) [1] rfl
      have hDc : va_D (fun q => z0 ≤ q) [((a 200), .inr (21, [.int 1, .ref (a 201), .ref (a 202), .ref (a 203), .ref (a 204), .ref (a 205), .ref (a 206), .int 0, .int 0, .int 0, .int 0, .ref (a 208), .ref (a 209), .ref (a 210), .ref (a 211), .ref (a 212), .int 4, .int 12, .int (-1), .int 0, .ref (g 200), .ref (a 213), .int 0, .int 97, .ref (a 214), .ref (a 215), .ref (a 207), .null, .int 0]))] := (hD.to hAz).pick (ws' := [((a 200), .inr (21, [.int 1, .ref (a 201), .ref (a 202), .ref (a 203), .ref (a 204), .ref (a 205), .ref (a 206), .int 0, .int 0, .int 0, .int 0, .ref (a 208), .ref (a 209), .ref (a 210), .ref (a 211), .ref (a 212), .int 4, .int 12, .int (-1), .int 0, .ref (g 200), .ref (a 213), .int 0, .int 97, .ref (a 214), .ref (a 215), .ref (a 207), .null, .int 0]))]) [1] (by decide) rfl
      have hFc := va_free (wc := [((a 200), .inr (21, [.int 1, .ref (a 201), .ref (a 202), .ref (a 203), .ref (a 204), .ref (a 205), .ref (a 206), .int 0, .int 0, .int 0, .int 0, .ref (a 208), .ref (a 209), .ref (a 210), .ref (a 211), .ref (a 212), .int 4, .int 12, .int (-1), .int 0, .ref (g 200), .ref (a 213), .int 0, .int 97, .ref (a 214), .ref (a 215), .ref (a 207), .null, .int 0]))]) hD hS hA [1] rfl
      refine va_calli (va_runV (As := []) (rest := []) ⟨hx, hb, hml, hown, ht⟩ (k_X15_thrown_v2 l D g z0 _ a) (cwV 0 ht (gV w_772 w_774 w_775 w_334 w_773) rfl rfl rfl (by decide +kernel) (le2 rfl rfl)) ⟨PP.blind, va_recv hK.1 hP (ci := 21) (q0 := 1) rfl rfl, PP.mk' hK hZ hz hAz hS hPc hDc⟩ rfl rfl hl.1 rfl (lv_room (Nat.le_of_ble_eq_true rfl)) dL_law_2003 (le2 rfl rfl)) hS (fun q _ h => hFc q h) hFc (fun r u t H locs ht1 hvm hw hB hz1 hk1 hS => ?_)
      obtain ⟨rfl, hw⟩ := hw
      obtain ⟨hP1, hD1⟩ := hB
      rw [ht1] at hP1
      obtain ⟨hP, hD⟩ := va_join (wr := [(o1, .inl (g 1, 1, .inr (.inl (fun _ => 0))))]) (w1 := [((a 200), .inr (21, [.int 1, .ref (a 201), .ref (a 202), .ref (a 203), .ref (a 204), .ref (a 205), .ref (a 206), .int 0, .int 0, .int 0, .int 0, .ref (a 208), .ref (a 209), .ref (a 210), .ref (a 211), .ref (a 212), .int 4, .int 12, .int (-1), .int 0, .ref (g 200), .ref (a 213), .int 0, .int 97, .ref (a 214), .ref (a 215), .ref (a 207), .null, .int 0]))]) hP hD [1] [0] rfl rfl (by decide) (by decide) hk1 hFc hP1 hD1
      have hP : va_P D vwCl [(o1, .inl (g 1, 1, .inr (.inl (fun _ => 0)))), ((a 200), .inr (21, [.int 1, .ref (a 201), .ref (a 202), .ref (a 203), .ref (a 204), .ref (a 205), .ref (a 206), .int 0, .int 0, .int 0, .int 0, .ref (a 208), .ref (a 209), .ref (a 210), .ref (a 211), .ref (a 212), .int 4, .int 12, .int (-1), .int 0, .ref (g 200), .ref (a 213), .int 0, .int 97, .ref (a 214), .ref (a 215), .ref (a 207), .null, .int 0]))] H := hP
      have hD : va_D (va_A [] s.heap.size) [(o1, .inl (g 1, 1, .inr (.inl (fun _ => 0)))), ((a 200), .inr (21, [.int 1, .ref (a 201), .ref (a 202), .ref (a 203), .ref (a 204), .ref (a 205), .ref (a 206), .int 0, .int 0, .int 0, .int 0, .ref (a 208), .ref (a 209), .ref (a 210), .ref (a 211), .ref (a 212), .int 4, .int 12, .int (-1), .int 0, .ref (g 200), .ref (a 213), .int 0, .int 97, .ref (a 214), .ref (a 215), .ref (a 207), .null, .int 0]))] := hD
      refine lv_iload hx hb dL_law_2006 (lv_at hl 1 rfl) ?_
      refine lv_icmp_eq (tgt := 2013) hx hb dL_law_2008 (by decide) (fun c_6 => ?_) (fun c_6 => ?_)
      · refine lv_iload hx hb dL_law_2013 (lv_at hl 1 rfl) ?_
        refine lv_if_ne (tgt := 2030) hx hb dL_law_2015 (by decide) (fun c_7 => ?_) (fun c_7 => ?_)
        · refine lv_goto (tgt := 4264) hx hb dL_law_2030 (by decide) ?_
          refine W.widen (k := 200 + 300) (n := 8000 + 2000) (Nat.le_of_ble_eq_true rfl) (Nat.le_of_ble_eq_true rfl) ?_
          exact kk _ _ _ hS (lv_sub hl [7, 2] rfl)
        · exact absurd c_7 (by decide)
      · exact absurd c_6 (by decide)
set_option maxHeartbeats 4000000 in
set_option maxRecDepth 100000 in
theorem lw_case_31 {p : Program} {l : Launch} {e : Env} {s : State} {m : MethodId} {below : List Frame} {meth : Method} {c : Code} {H : Heap} {locs : List Loc} {ls : Array Slot} {Q : State → Prop} {D : va_G} {g : Nat → ClassId} {z0 b : Nat} {xs : Nat → Int32} {a : Nat → Nat} {o1 o2 : Nat} (hfl : l.stackTraces = false) (hx : p.tables.exec = Jvm.exec) (hb : c.code = cL_law) (hml : c.maxLocals = 9) (hown : s.vm.findClass RL = some m.cls) (ht : ∀ w ∈ TG, w.before #[Value.ref b] s = true) (hX : va_X b 6 xs s s.heap) (hbl : b < s.heap.size) (hbA : ¬ va_A [] s.heap.size b) (hK : KK D g s) (hZ : ZZ g z0 s) (hz : z0 ≤ s.heap.size) (hAz : ∀ q, va_A [] s.heap.size q → z0 ≤ q) (hP : va_P D vwCl (lwW a g o1 o2) H) (hD : va_D (va_A [] s.heap.size) (lwW a g o1 o2)) (hS : va_S (va_A [] s.heap.size) s.heap H locs) (hl : lv_has ls 9 [(0, .ref b), (1, .ref (a 0)), (2, .ref (a 200)), (3, .ref o1), (4, .ref o2), (5, .int 0)])
    (kk : ∀ (H : Heap) (locs : List Loc) (ls : Array Slot), va_S (va_A [] s.heap.size) s.heap H locs → lv_has ls 9 [(5, .int 0), (0, .ref b)] → W p l e room_1 s m #[Value.ref b] below meth c H locs (200 + 300) (8000 + 2000) Q (F0 m 4264 ls [])) :
    W p l e room_1 s m #[Value.ref b] below meth c H locs 200 8000 Q (F0 m 2101 ls []) := by
  have hA : ∀ q : Nat, s.heap.size ≤ q → va_A [] s.heap.size q := Anw
  have hP := hP.sub (ws' := [((a 0), f_x a), ((a 3), f_rows a), ((a 200), f_m a g), ((a 206), .inr (5, [.int 0, .ref (g 100), .int 0])), (o1, .inl (g 1, 1, .inr (.inl (fun _ => 0))))]) [0, 7, 26, 32, 61] rfl
  have hD := hD.sub (ws' := [((a 0), f_x a), ((a 3), f_rows a), ((a 200), f_m a g), ((a 206), .inr (5, [.int 0, .ref (g 100), .int 0])), (o1, .inl (g 1, 1, .inr (.inl (fun _ => 0))))]) [0, 7, 26, 32, 61] (by decide) rfl
  refine lv_aload_n hx hb dL_law_2101 rfl (lv_at hl 1 rfl) ?_
  refine lv_aload_n hx hb dL_law_2102 rfl (lv_at hl 0 rfl) ?_
  refine lv_iload hx hb dL_law_2103 (lv_at hl 5 rfl) ?_
  refine lv_iconst (v := 1) hx hb dL_law_2105 (by decide) ?_
  refine lv_iadd hx hb dL_law_2106 ?_
  refine r_topi (v := 1) (by decide) ?_
  refine va_sld hx hb hX hbl hbA hS (by unfold vp_in; decide) dL_law_2107 ?_
  refine r_topi (v := xs 1) (congrArg xs (by decide)) ?_
  refine lv_aload_n hx hb dL_law_2108 rfl (lv_at hl 3 rfl) ?_
  have hPc : va_P D vwCl [(o1, .inl (g 1, 1, .inr (.inl (fun _ => 0)))), ((a 0), f_x a), ((a 3), f_rows a)] _ := hP.sub (ws' := [(o1, .inl (g 1, 1, .inr (.inl (fun _ => 0)))), ((a 0), f_x a), ((a 3), f_rows a)]) [4, 0, 1] rfl
  have hDc : va_D (fun q => z0 ≤ q) [(o1, .inl (g 1, 1, .inr (.inl (fun _ => 0)))), ((a 0), f_x a), ((a 3), f_rows a)] := (hD.to hAz).pick (ws' := [(o1, .inl (g 1, 1, .inr (.inl (fun _ => 0)))), ((a 0), f_x a), ((a 3), f_rows a)]) [4, 0, 1] (by decide) rfl
  have hFc := va_free (wc := [(o1, .inl (g 1, 1, .inr (.inl (fun _ => 0)))), ((a 0), f_x a), ((a 3), f_rows a)]) hD hS hA [4, 0, 1] rfl
  refine va_calli (vx_runSW (As := [.ref (a 0), .int (xs 1), .ref o1]) (rest := []) ⟨hx, hb, hml, hown, ht⟩ (k_L_seedFor l hfl D g z0 _ a (xs 1) o1) (vx_cwSW 3 ht (gS w_976 w_978 w_767 w_977) rfl rfl rfl (by decide +kernel) (le2 rfl rfl)) ⟨PP.blind, PP.mk' hK hZ hz hAz hS hPc hDc⟩ rfl rfl hl.1 rfl (lv_room (Nat.le_of_ble_eq_true rfl)) dL_law_2109 (le2 rfl rfl)) hS (fun q _ h => hFc q h) hFc (fun r u t H locs ht1 hvm hw hB hz1 hk1 hS => ?_)
  obtain ⟨rfl, hw⟩ := hw
  obtain ⟨hP1, hD1⟩ := hB
  rw [ht1] at hP1
  obtain ⟨hP, hD⟩ := va_join (wr := [((a 200), f_m a g), ((a 206), .inr (5, [.int 0, .ref (g 100), .int 0]))]) (w1 := [(o1, .inl (g 1, 1, .inr (.inl (fun _ => 0))))]) hP hD [4, 0, 1] [2, 3] rfl rfl (by decide) (by decide) hk1 hFc hP1 hD1
  have hP : va_P D vwCl [((a 200), f_m a g), ((a 206), .inr (5, [.int 0, .ref (g 100), .int 0])), (o1, .inl (g 1, 1, .inr (.inl (fun _ => 0))))] H := hP
  have hD : va_D (va_A [] s.heap.size) [((a 200), f_m a g), ((a 206), .inr (5, [.int 0, .ref (g 100), .int 0])), (o1, .inl (g 1, 1, .inr (.inl (fun _ => 0))))] := hD
  refine lv_istore (lv' := [(6, .int 1), (0, .ref b), (1, .ref (a 0)), (2, .ref (a 200)), (3, .ref o1), (4, .ref o2), (5, .int 0)]) hx hb dL_law_2112 hl (by decide) rfl (fun ls hl => ?_)
  refine lv_aload_n hx hb dL_law_2114 rfl (lv_at hl 3 rfl) ?_
  refine lv_aload_n hx hb dL_law_2115 rfl (lv_at hl 1 rfl) ?_
  refine lv_iload hx hb dL_law_2116 (lv_at hl 6 rfl) ?_
  refine lv_iconst (v := 1) hx hb dL_law_2118 (by decide) ?_
  refine lv_iadd hx hb dL_law_2119 ?_
  refine r_topi (v := 1) (by decide) ?_
  refine va_sld hx hb hX hbl hbA hS (by unfold vp_in; decide) dL_law_2120 ?_
  refine r_topi (v := xs 1) (congrArg xs (by decide)) ?_
  have hPc : va_P D vwCl [((a 200), f_m a g), ((a 206), .inr (5, [.int 0, .ref (g 100), .int 0]))] _ := hP.sub (ws' := [((a 200), f_m a g), ((a 206), .inr (5, [.int 0, .ref (g 100), .int 0]))]) [0, 1] rfl
  have hDc : va_D (fun q => z0 ≤ q) [((a 200), f_m a g), ((a 206), .inr (5, [.int 0, .ref (g 100), .int 0]))] := (hD.to hAz).pick (ws' := [((a 200), f_m a g), ((a 206), .inr (5, [.int 0, .ref (g 100), .int 0]))]) [0, 1] (by decide) rfl
  have hFc := va_free (wc := [((a 200), f_m a g), ((a 206), .inr (5, [.int 0, .ref (g 100), .int 0]))]) hD hS hA [0, 1] rfl
  refine va_calli (va_runV (As := [.int (xs 1)]) (rest := []) ⟨hx, hb, hml, hown, ht⟩ (k_X15_seedFor l D g z0 _ a (xs 1)) (cwV 1 ht (gV w_979 w_981 w_982 w_334 w_980) rfl rfl rfl (by decide +kernel) (le2 rfl rfl)) ⟨PP.blind, va_recv hK.1 hP (ci := 21) (q0 := 0) rfl rfl, PP.mk' hK hZ hz hAz hS hPc hDc⟩ rfl rfl hl.1 rfl (lv_room (Nat.le_of_ble_eq_true rfl)) dL_law_2121 (le2 rfl rfl)) hS (fun q _ h => hFc q h) hFc (fun r u t H locs ht1 hvm hw hB hz1 hk1 hS => ?_)
  obtain ⟨rfl, hw⟩ := hw
  obtain ⟨hP1, hD1⟩ := hB
  rw [ht1] at hP1
  obtain ⟨hP, hD⟩ := va_join (wr := [(o1, .inl (g 1, 1, .inr (.inl (fun _ => 0))))]) (w1 := [((a 200), .inr (21, [.int 1, .ref (a 201), .ref (a 202), .ref (a 203), .ref (a 204), .ref (a 205), .ref (a 206), .int 0, .int 0, .int 0, .int 0, .ref (a 208), .ref (a 209), .ref (a 210), .ref (a 211), .ref (a 212), .int 4, .int 12, .int (-1), .int 0, .ref (g 200), .ref (a 213), .int 0, .int 97, .ref (a 214), .ref (a 215), .ref (a 207), .null, .int 0]))]) hP hD [0, 1] [2] rfl rfl (by decide) (by decide) hk1 hFc hP1 hD1
  have hP : va_P D vwCl [(o1, .inl (g 1, 1, .inr (.inl (fun _ => 0)))), ((a 200), .inr (21, [.int 1, .ref (a 201), .ref (a 202), .ref (a 203), .ref (a 204), .ref (a 205), .ref (a 206), .int 0, .int 0, .int 0, .int 0, .ref (a 208), .ref (a 209), .ref (a 210), .ref (a 211), .ref (a 212), .int 4, .int 12, .int (-1), .int 0, .ref (g 200), .ref (a 213), .int 0, .int 97, .ref (a 214), .ref (a 215), .ref (a 207), .null, .int 0]))] H := hP
  have hD : va_D (va_A [] s.heap.size) [(o1, .inl (g 1, 1, .inr (.inl (fun _ => 0)))), ((a 200), .inr (21, [.int 1, .ref (a 201), .ref (a 202), .ref (a 203), .ref (a 204), .ref (a 205), .ref (a 206), .int 0, .int 0, .int 0, .int 0, .ref (a 208), .ref (a 209), .ref (a 210), .ref (a 211), .ref (a 212), .int 4, .int 12, .int (-1), .int 0, .ref (g 200), .ref (a 213), .int 0, .int 97, .ref (a 214), .ref (a 215), .ref (a 207), .null, .int 0]))] := hD
  refine lv_istore (lv' := [(7, .int 0), (6, .int 1), (0, .ref b), (1, .ref (a 0)), (2, .ref (a 200)), (3, .ref o1), (4, .ref o2), (5, .int 0)]) hx hb dL_law_2124 hl (by decide) rfl (fun ls hl => ?_)
  refine lv_aload_n hx hb dL_law_2126 rfl (lv_at hl 4 rfl) ?_
  have hPc : va_P D vwCl [((a 200), .inr (21, [.int 1, .ref (a 201), .ref (a 202), .ref (a 203), .ref (a 204), .ref (a 205), .ref (a 206), .int 0, .int 0, .int 0, .int 0, .ref (a 208), .ref (a 209), .ref (a 210), .ref (a 211), .ref (a 212), .int 4, .int 12, .int (-1), .int 0, .ref (g 200), .ref (a 213), .int 0, .int 97, .ref (a 214), .ref (a 215), .ref (a 207), .null, .int 0]))] _ := hP.sub (ws' := [((a 200), .inr (21, [.int 1, .ref (a 201), .ref (a 202), .ref (a 203), .ref (a 204), .ref (a 205), .ref (a 206), .int 0, .int 0, .int 0, .int 0, .ref (a 208), .ref (a 209), .ref (a 210), .ref (a 211), .ref (a 212), .int 4, .int 12, .int (-1), .int 0, .ref (g 200), .ref (a 213), .int 0, .int 97, .ref (a 214), .ref (a 215), .ref (a 207), .null, .int 0]))]) [1] rfl
  have hDc : va_D (fun q => z0 ≤ q) [((a 200), .inr (21, [.int 1, .ref (a 201), .ref (a 202), .ref (a 203), .ref (a 204), .ref (a 205), .ref (a 206), .int 0, .int 0, .int 0, .int 0, .ref (a 208), .ref (a 209), .ref (a 210), .ref (a 211), .ref (a 212), .int 4, .int 12, .int (-1), .int 0, .ref (g 200), .ref (a 213), .int 0, .int 97, .ref (a 214), .ref (a 215), .ref (a 207), .null, .int 0]))] := (hD.to hAz).pick (ws' := [((a 200), .inr (21, [.int 1, .ref (a 201), .ref (a 202), .ref (a 203), .ref (a 204), .ref (a 205), .ref (a 206), .int 0, .int 0, .int 0, .int 0, .ref (a 208), .ref (a 209), .ref (a 210), .ref (a 211), .ref (a 212), .int 4, .int 12, .int (-1), .int 0, .ref (g 200), .ref (a 213), .int 0, .int 97, .ref (a 214), .ref (a 215), .ref (a 207), .null, .int 0]))]) [1] (by decide) rfl
  have hFc := va_free (wc := [((a 200), .inr (21, [.int 1, .ref (a 201), .ref (a 202), .ref (a 203), .ref (a 204), .ref (a 205), .ref (a 206), .int 0, .int 0, .int 0, .int 0, .ref (a 208), .ref (a 209), .ref (a 210), .ref (a 211), .ref (a 212), .int 4, .int 12, .int (-1), .int 0, .ref (g 200), .ref (a 213), .int 0, .int 97, .ref (a 214), .ref (a 215), .ref (a 207), .null, .int 0]))]) hD hS hA [1] rfl
  refine va_calli (va_runV (As := []) (rest := []) ⟨hx, hb, hml, hown, ht⟩ (k_X15_thrown_v2 l D g z0 _ a) (cwV 0 ht (gV w_772 w_774 w_775 w_334 w_773) rfl rfl rfl (by decide +kernel) (le2 rfl rfl)) ⟨PP.blind, va_recv hK.1 hP (ci := 21) (q0 := 1) rfl rfl, PP.mk' hK hZ hz hAz hS hPc hDc⟩ rfl rfl hl.1 rfl (lv_room (Nat.le_of_ble_eq_true rfl)) dL_law_2127 (le2 rfl rfl)) hS (fun q _ h => hFc q h) hFc (fun r u t H locs ht1 hvm hw hB hz1 hk1 hS => ?_)
  obtain ⟨rfl, hw⟩ := hw
  obtain ⟨hP1, hD1⟩ := hB
  rw [ht1] at hP1
  obtain ⟨hP, hD⟩ := va_join (wr := [(o1, .inl (g 1, 1, .inr (.inl (fun _ => 0))))]) (w1 := [((a 200), .inr (21, [.int 1, .ref (a 201), .ref (a 202), .ref (a 203), .ref (a 204), .ref (a 205), .ref (a 206), .int 0, .int 0, .int 0, .int 0, .ref (a 208), .ref (a 209), .ref (a 210), .ref (a 211), .ref (a 212), .int 4, .int 12, .int (-1), .int 0, .ref (g 200), .ref (a 213), .int 0, .int 97, .ref (a 214), .ref (a 215), .ref (a 207), .null, .int 0]))]) hP hD [1] [0] rfl rfl (by decide) (by decide) hk1 hFc hP1 hD1
  have hP : va_P D vwCl [(o1, .inl (g 1, 1, .inr (.inl (fun _ => 0)))), ((a 200), .inr (21, [.int 1, .ref (a 201), .ref (a 202), .ref (a 203), .ref (a 204), .ref (a 205), .ref (a 206), .int 0, .int 0, .int 0, .int 0, .ref (a 208), .ref (a 209), .ref (a 210), .ref (a 211), .ref (a 212), .int 4, .int 12, .int (-1), .int 0, .ref (g 200), .ref (a 213), .int 0, .int 97, .ref (a 214), .ref (a 215), .ref (a 207), .null, .int 0]))] H := hP
  have hD : va_D (va_A [] s.heap.size) [(o1, .inl (g 1, 1, .inr (.inl (fun _ => 0)))), ((a 200), .inr (21, [.int 1, .ref (a 201), .ref (a 202), .ref (a 203), .ref (a 204), .ref (a 205), .ref (a 206), .int 0, .int 0, .int 0, .int 0, .ref (a 208), .ref (a 209), .ref (a 210), .ref (a 211), .ref (a 212), .int 4, .int 12, .int (-1), .int 0, .ref (g 200), .ref (a 213), .int 0, .int 97, .ref (a 214), .ref (a 215), .ref (a 207), .null, .int 0]))] := hD
  refine lv_iload hx hb dL_law_2130 (lv_at hl 1 rfl) ?_
  refine lv_icmp_eq (tgt := 2137) hx hb dL_law_2132 (by decide) (fun c_1 => ?_) (fun c_1 => ?_)
  · refine lv_iload hx hb dL_law_2137 (lv_at hl 1 rfl) ?_
    refine lv_if_ne (tgt := 2154) hx hb dL_law_2139 (by decide) (fun c_2 => ?_) (fun c_2 => ?_)
    · refine lv_goto (tgt := 4264) hx hb dL_law_2154 (by decide) ?_
      refine W.widen (k := 200 + 300) (n := 8000 + 2000) (Nat.le_of_ble_eq_true rfl) (Nat.le_of_ble_eq_true rfl) ?_
      exact kk _ _ _ hS (lv_sub hl [7, 2] rfl)
    · exact absurd c_2 (by decide)
  · exact absurd c_1 (by decide)
set_option maxHeartbeats 4000000 in
set_option maxRecDepth 100000 in
theorem lw_case_32 {p : Program} {l : Launch} {e : Env} {s : State} {m : MethodId} {below : List Frame} {meth : Method} {c : Code} {H : Heap} {locs : List Loc} {ls : Array Slot} {Q : State → Prop} {D : va_G} {g : Nat → ClassId} {z0 b : Nat} {xs : Nat → Int32} {a : Nat → Nat} {o1 o2 : Nat} (hfl : l.stackTraces = false) (hx : p.tables.exec = Jvm.exec) (hb : c.code = cL_law) (hml : c.maxLocals = 9) (hown : s.vm.findClass RL = some m.cls) (ht : ∀ w ∈ TG, w.before #[Value.ref b] s = true) (hX : va_X b 6 xs s s.heap) (hbl : b < s.heap.size) (hbA : ¬ va_A [] s.heap.size b) (hK : KK D g s) (hZ : ZZ g z0 s) (hz : z0 ≤ s.heap.size) (hAz : ∀ q, va_A [] s.heap.size q → z0 ≤ q) (hP : va_P D vwCl (lwW a g o1 o2) H) (hD : va_D (va_A [] s.heap.size) (lwW a g o1 o2)) (hS : va_S (va_A [] s.heap.size) s.heap H locs) (hl : lv_has ls 9 [(0, .ref b), (1, .ref (a 0)), (2, .ref (a 200)), (3, .ref o1), (4, .ref o2), (5, .int 0)])
    (kk : ∀ (H : Heap) (locs : List Loc) (ls : Array Slot), va_S (va_A [] s.heap.size) s.heap H locs → lv_has ls 9 [(5, .int 0), (0, .ref b)] → W p l e room_1 s m #[Value.ref b] below meth c H locs (200 + 300) (8000 + 2000) Q (F0 m 4264 ls [])) :
    W p l e room_1 s m #[Value.ref b] below meth c H locs 200 8000 Q (F0 m 2157 ls []) := by
  have hA : ∀ q : Nat, s.heap.size ≤ q → va_A [] s.heap.size q := Anw
  have hP := hP.sub (ws' := [((a 0), f_x a), ((a 1), f_net a), ((a 2), f_book a), ((a 3), f_rows a), ((a 38), .inl (g 1, 12, .inr (.inl (fun _ => 0)))), ((a 39), .inl (g 1, 12, .inr (.inl (fun _ => 0)))), ((a 4), f_words a), ((a 200), f_m a g), ((a 204), .inr (5, [.int 0, .ref (g 100), .int 0])), ((a 206), .inr (5, [.int 0, .ref (g 100), .int 0])), (o1, .inl (g 1, 1, .inr (.inl (fun _ => 0))))]) [0, 5, 6, 7, 8, 9, 11, 26, 30, 32, 61] rfl
  have hD := hD.sub (ws' := [((a 0), f_x a), ((a 1), f_net a), ((a 2), f_book a), ((a 3), f_rows a), ((a 38), .inl (g 1, 12, .inr (.inl (fun _ => 0)))), ((a 39), .inl (g 1, 12, .inr (.inl (fun _ => 0)))), ((a 4), f_words a), ((a 200), f_m a g), ((a 204), .inr (5, [.int 0, .ref (g 100), .int 0])), ((a 206), .inr (5, [.int 0, .ref (g 100), .int 0])), (o1, .inl (g 1, 1, .inr (.inl (fun _ => 0))))]) [0, 5, 6, 7, 8, 9, 11, 26, 30, 32, 61] (by decide) rfl
  refine lv_aload_n hx hb dL_law_2157 rfl (lv_at hl 1 rfl) ?_
  refine lv_aload_n hx hb dL_law_2158 rfl (lv_at hl 0 rfl) ?_
  refine lv_iload hx hb dL_law_2159 (lv_at hl 5 rfl) ?_
  refine lv_iconst (v := 1) hx hb dL_law_2161 (by decide) ?_
  refine lv_iadd hx hb dL_law_2162 ?_
  refine r_topi (v := 1) (by decide) ?_
  refine va_sld hx hb hX hbl hbA hS (by unfold vp_in; decide) dL_law_2163 ?_
  refine r_topi (v := xs 1) (congrArg xs (by decide)) ?_
  refine lv_aload_n hx hb dL_law_2164 rfl (lv_at hl 3 rfl) ?_
  have hPc : va_P D vwCl [(o1, .inl (g 1, 1, .inr (.inl (fun _ => 0)))), ((a 0), f_x a), ((a 3), f_rows a), ((a 4), f_words a), ((a 38), .inl (g 1, 12, .inr (.inl (fun _ => 0)))), ((a 39), .inl (g 1, 12, .inr (.inl (fun _ => 0)))), ((a 1), f_net a), ((a 2), f_book a)] _ := hP.sub (ws' := [(o1, .inl (g 1, 1, .inr (.inl (fun _ => 0)))), ((a 0), f_x a), ((a 3), f_rows a), ((a 4), f_words a), ((a 38), .inl (g 1, 12, .inr (.inl (fun _ => 0)))), ((a 39), .inl (g 1, 12, .inr (.inl (fun _ => 0)))), ((a 1), f_net a), ((a 2), f_book a)]) [10, 0, 3, 6, 4, 5, 1, 2] rfl
  have hDc : va_D (fun q => z0 ≤ q) [(o1, .inl (g 1, 1, .inr (.inl (fun _ => 0)))), ((a 0), f_x a), ((a 3), f_rows a), ((a 4), f_words a), ((a 38), .inl (g 1, 12, .inr (.inl (fun _ => 0)))), ((a 39), .inl (g 1, 12, .inr (.inl (fun _ => 0)))), ((a 1), f_net a), ((a 2), f_book a)] := (hD.to hAz).pick (ws' := [(o1, .inl (g 1, 1, .inr (.inl (fun _ => 0)))), ((a 0), f_x a), ((a 3), f_rows a), ((a 4), f_words a), ((a 38), .inl (g 1, 12, .inr (.inl (fun _ => 0)))), ((a 39), .inl (g 1, 12, .inr (.inl (fun _ => 0)))), ((a 1), f_net a), ((a 2), f_book a)]) [10, 0, 3, 6, 4, 5, 1, 2] (by decide) rfl
  have hFc := va_free (wc := [(o1, .inl (g 1, 1, .inr (.inl (fun _ => 0)))), ((a 0), f_x a), ((a 3), f_rows a), ((a 4), f_words a), ((a 38), .inl (g 1, 12, .inr (.inl (fun _ => 0)))), ((a 39), .inl (g 1, 12, .inr (.inl (fun _ => 0)))), ((a 1), f_net a), ((a 2), f_book a)]) hD hS hA [10, 0, 3, 6, 4, 5, 1, 2] rfl
  refine va_calli (vx_runSW (As := [.ref (a 0), .int (xs 1), .ref o1]) (rest := []) ⟨hx, hb, hml, hown, ht⟩ (k_L_signature l hfl D g z0 _ a (xs 1) o1) (vx_cwSW 3 ht (gS w_983 w_985 w_767 w_984) rfl rfl rfl (by decide +kernel) (le2 rfl rfl)) ⟨PP.blind, PP.mk' hK hZ hz hAz hS hPc hDc⟩ rfl rfl hl.1 rfl (lv_room (Nat.le_of_ble_eq_true rfl)) dL_law_2165 (le2 rfl rfl)) hS (fun q _ h => hFc q h) hFc (fun r u t H locs ht1 hvm hw hB hz1 hk1 hS => ?_)
  rcases hw with hw | hw
  · obtain ⟨rfl, hw⟩ := hw
    have c_1 := hw
    obtain ⟨hP1, hD1⟩ := hB
    rw [ht1] at hP1
    obtain ⟨hP, hD⟩ := va_join (wr := [((a 200), f_m a g), ((a 204), .inr (5, [.int 0, .ref (g 100), .int 0])), ((a 206), .inr (5, [.int 0, .ref (g 100), .int 0]))]) (w1 := [(o1, .inl (g 1, 1, .inr (.inl (fun _ => 0))))]) hP hD [10, 0, 3, 6, 4, 5, 1, 2] [7, 8, 9] rfl rfl (by decide) (by decide) hk1 hFc hP1 hD1
    have hP : va_P D vwCl [((a 200), f_m a g), ((a 204), .inr (5, [.int 0, .ref (g 100), .int 0])), ((a 206), .inr (5, [.int 0, .ref (g 100), .int 0])), (o1, .inl (g 1, 1, .inr (.inl (fun _ => 0))))] H := hP
    have hD : va_D (va_A [] s.heap.size) [((a 200), f_m a g), ((a 204), .inr (5, [.int 0, .ref (g 100), .int 0])), ((a 206), .inr (5, [.int 0, .ref (g 100), .int 0])), (o1, .inl (g 1, 1, .inr (.inl (fun _ => 0))))] := hD
    refine lv_istore (lv' := [(6, .int 1), (0, .ref b), (1, .ref (a 0)), (2, .ref (a 200)), (3, .ref o1), (4, .ref o2), (5, .int 0)]) hx hb dL_law_2168 hl (by decide) rfl (fun ls hl => ?_)
    refine lv_aload_n hx hb dL_law_2170 rfl (lv_at hl 3 rfl) ?_
    refine lv_aload_n hx hb dL_law_2171 rfl (lv_at hl 1 rfl) ?_
    refine lv_iload hx hb dL_law_2172 (lv_at hl 6 rfl) ?_
    refine lv_iconst (v := 1) hx hb dL_law_2174 (by decide) ?_
    refine lv_iadd hx hb dL_law_2175 ?_
    refine r_topi (v := 1) (by decide) ?_
    refine va_sld hx hb hX hbl hbA hS (by unfold vp_in; decide) dL_law_2176 ?_
    refine r_topi (v := xs 1) (congrArg xs (by decide)) ?_
    have hPc : va_P D vwCl [((a 200), f_m a g), ((a 206), .inr (5, [.int 0, .ref (g 100), .int 0])), ((a 204), .inr (5, [.int 0, .ref (g 100), .int 0]))] _ := hP.sub (ws' := [((a 200), f_m a g), ((a 206), .inr (5, [.int 0, .ref (g 100), .int 0])), ((a 204), .inr (5, [.int 0, .ref (g 100), .int 0]))]) [0, 2, 1] rfl
    have hDc : va_D (fun q => z0 ≤ q) [((a 200), f_m a g), ((a 206), .inr (5, [.int 0, .ref (g 100), .int 0])), ((a 204), .inr (5, [.int 0, .ref (g 100), .int 0]))] := (hD.to hAz).pick (ws' := [((a 200), f_m a g), ((a 206), .inr (5, [.int 0, .ref (g 100), .int 0])), ((a 204), .inr (5, [.int 0, .ref (g 100), .int 0]))]) [0, 2, 1] (by decide) rfl
    have hFc := va_free (wc := [((a 200), f_m a g), ((a 206), .inr (5, [.int 0, .ref (g 100), .int 0])), ((a 204), .inr (5, [.int 0, .ref (g 100), .int 0]))]) hD hS hA [0, 2, 1] rfl
    refine va_calli (va_runV (As := [.int (xs 1)]) (rest := []) ⟨hx, hb, hml, hown, ht⟩ (k_X15_signature l D g z0 _ a (xs 1)) (cwV 1 ht (gV w_986 w_988 w_989 w_334 w_987) rfl rfl rfl (by decide +kernel) (le2 rfl rfl)) ⟨PP.blind, va_recv hK.1 hP (ci := 21) (q0 := 0) rfl rfl, PP.mk' hK hZ hz hAz hS hPc hDc⟩ rfl rfl hl.1 rfl (lv_room (Nat.le_of_ble_eq_true rfl)) dL_law_2177 (le2 rfl rfl)) hS (fun q _ h => hFc q h) hFc (fun r u t H locs ht1 hvm hw hB hz1 hk1 hS => ?_)
    rcases hw with hw | hw
    · obtain ⟨rfl, rfl, hw⟩ := hw
      have c_2 := hw
      exact absurd c_2 c_1
    · obtain ⟨rfl, rfl, hw⟩ := hw
      have c_3 := hw
      obtain ⟨hP1, hD1⟩ := hB
      rw [ht1] at hP1
      obtain ⟨hP, hD⟩ := va_join (wr := [(o1, .inl (g 1, 1, .inr (.inl (fun _ => 0))))]) (w1 := [((a 200), .inr (21, [.int 1, .ref (a 201), .ref (a 202), .ref (a 203), .ref (a 204), .ref (a 205), .ref (a 206), .int 0, .int 0, .int 0, .int 0, .ref (a 208), .ref (a 209), .ref (a 210), .ref (a 211), .ref (a 212), .int 4, .int 12, .int (-1), .int 0, .ref (g 200), .ref (a 213), .int 0, .int 97, .ref (a 214), .ref (a 215), .ref (a 207), .null, .int 0]))]) hP hD [0, 2, 1] [3] rfl rfl (by decide) (by decide) hk1 hFc hP1 hD1
      have hP : va_P D vwCl [(o1, .inl (g 1, 1, .inr (.inl (fun _ => 0)))), ((a 200), .inr (21, [.int 1, .ref (a 201), .ref (a 202), .ref (a 203), .ref (a 204), .ref (a 205), .ref (a 206), .int 0, .int 0, .int 0, .int 0, .ref (a 208), .ref (a 209), .ref (a 210), .ref (a 211), .ref (a 212), .int 4, .int 12, .int (-1), .int 0, .ref (g 200), .ref (a 213), .int 0, .int 97, .ref (a 214), .ref (a 215), .ref (a 207), .null, .int 0]))] H := hP
      have hD : va_D (va_A [] s.heap.size) [(o1, .inl (g 1, 1, .inr (.inl (fun _ => 0)))), ((a 200), .inr (21, [.int 1, .ref (a 201), .ref (a 202), .ref (a 203), .ref (a 204), .ref (a 205), .ref (a 206), .int 0, .int 0, .int 0, .int 0, .ref (a 208), .ref (a 209), .ref (a 210), .ref (a 211), .ref (a 212), .int 4, .int 12, .int (-1), .int 0, .ref (g 200), .ref (a 213), .int 0, .int 97, .ref (a 214), .ref (a 215), .ref (a 207), .null, .int 0]))] := hD
      refine lv_istore (lv' := [(7, .int 0), (6, .int 1), (0, .ref b), (1, .ref (a 0)), (2, .ref (a 200)), (3, .ref o1), (4, .ref o2), (5, .int 0)]) hx hb dL_law_2180 hl (by decide) rfl (fun ls hl => ?_)
      refine lv_aload_n hx hb dL_law_2182 rfl (lv_at hl 4 rfl) ?_
      have hPc : va_P D vwCl [((a 200), .inr (21, [.int 1, .ref (a 201), .ref (a 202), .ref (a 203), .ref (a 204), .ref (a 205), .ref (a 206), .int 0, .int 0, .int 0, .int 0, .ref (a 208), .ref (a 209), .ref (a 210), .ref (a 211), .ref (a 212), .int 4, .int 12, .int (-1), .int 0, .ref (g 200), .ref (a 213), .int 0, .int 97, .ref (a 214), .ref (a 215), .ref (a 207), .null, .int 0]))] _ := hP.sub (ws' := [((a 200), .inr (21, [.int 1, .ref (a 201), .ref (a 202), .ref (a 203), .ref (a 204), .ref (a 205), .ref (a 206), .int 0, .int 0, .int 0, .int 0, .ref (a 208), .ref (a 209), .ref (a 210), .ref (a 211), .ref (a 212), .int 4, .int 12, .int (-1), .int 0, .ref (g 200), .ref (a 213), .int 0, .int 97, .ref (a 214), .ref (a 215), .ref (a 207), .null, .int 0]))]) [1] rfl
      have hDc : va_D (fun q => z0 ≤ q) [((a 200), .inr (21, [.int 1, .ref (a 201), .ref (a 202), .ref (a 203), .ref (a 204), .ref (a 205), .ref (a 206), .int 0, .int 0, .int 0, .int 0, .ref (a 208), .ref (a 209), .ref (a 210), .ref (a 211), .ref (a 212), .int 4, .int 12, .int (-1), .int 0, .ref (g 200), .ref (a 213), .int 0, .int 97, .ref (a 214), .ref (a 215), .ref (a 207), .null, .int 0]))] := (hD.to hAz).pick (ws' := [((a 200), .inr (21, [.int 1, .ref (a 201), .ref (a 202), .ref (a 203), .ref (a 204), .ref (a 205), .ref (a 206), .int 0, .int 0, .int 0, .int 0, .ref (a 208), .ref (a 209), .ref (a 210), .ref (a 211), .ref (a 212), .int 4, .int 12, .int (-1), .int 0, .ref (g 200), .ref (a 213), .int 0, .int 97, .ref (a 214), .ref (a 215), .ref (a 207), .null, .int 0]))]) [1] (by decide) rfl
      have hFc := va_free (wc := [((a 200), .inr (21, [.int 1, .ref (a 201), .ref (a 202), .ref (a 203), .ref (a 204), .ref (a 205), .ref (a 206), .int 0, .int 0, .int 0, .int 0, .ref (a 208), .ref (a 209), .ref (a 210), .ref (a 211), .ref (a 212), .int 4, .int 12, .int (-1), .int 0, .ref (g 200), .ref (a 213), .int 0, .int 97, .ref (a 214), .ref (a 215), .ref (a 207), .null, .int 0]))]) hD hS hA [1] rfl
      refine va_calli (va_runV (As := []) (rest := []) ⟨hx, hb, hml, hown, ht⟩ (k_X15_thrown_v2 l D g z0 _ a) (cwV 0 ht (gV w_772 w_774 w_775 w_334 w_773) rfl rfl rfl (by decide +kernel) (le2 rfl rfl)) ⟨PP.blind, va_recv hK.1 hP (ci := 21) (q0 := 1) rfl rfl, PP.mk' hK hZ hz hAz hS hPc hDc⟩ rfl rfl hl.1 rfl (lv_room (Nat.le_of_ble_eq_true rfl)) dL_law_2183 (le2 rfl rfl)) hS (fun q _ h => hFc q h) hFc (fun r u t H locs ht1 hvm hw hB hz1 hk1 hS => ?_)
      obtain ⟨rfl, hw⟩ := hw
      obtain ⟨hP1, hD1⟩ := hB
      rw [ht1] at hP1
      obtain ⟨hP, hD⟩ := va_join (wr := [(o1, .inl (g 1, 1, .inr (.inl (fun _ => 0))))]) (w1 := [((a 200), .inr (21, [.int 1, .ref (a 201), .ref (a 202), .ref (a 203), .ref (a 204), .ref (a 205), .ref (a 206), .int 0, .int 0, .int 0, .int 0, .ref (a 208), .ref (a 209), .ref (a 210), .ref (a 211), .ref (a 212), .int 4, .int 12, .int (-1), .int 0, .ref (g 200), .ref (a 213), .int 0, .int 97, .ref (a 214), .ref (a 215), .ref (a 207), .null, .int 0]))]) hP hD [1] [0] rfl rfl (by decide) (by decide) hk1 hFc hP1 hD1
      have hP : va_P D vwCl [(o1, .inl (g 1, 1, .inr (.inl (fun _ => 0)))), ((a 200), .inr (21, [.int 1, .ref (a 201), .ref (a 202), .ref (a 203), .ref (a 204), .ref (a 205), .ref (a 206), .int 0, .int 0, .int 0, .int 0, .ref (a 208), .ref (a 209), .ref (a 210), .ref (a 211), .ref (a 212), .int 4, .int 12, .int (-1), .int 0, .ref (g 200), .ref (a 213), .int 0, .int 97, .ref (a 214), .ref (a 215), .ref (a 207), .null, .int 0]))] H := hP
      have hD : va_D (va_A [] s.heap.size) [(o1, .inl (g 1, 1, .inr (.inl (fun _ => 0)))), ((a 200), .inr (21, [.int 1, .ref (a 201), .ref (a 202), .ref (a 203), .ref (a 204), .ref (a 205), .ref (a 206), .int 0, .int 0, .int 0, .int 0, .ref (a 208), .ref (a 209), .ref (a 210), .ref (a 211), .ref (a 212), .int 4, .int 12, .int (-1), .int 0, .ref (g 200), .ref (a 213), .int 0, .int 97, .ref (a 214), .ref (a 215), .ref (a 207), .null, .int 0]))] := hD
      refine lv_iload hx hb dL_law_2186 (lv_at hl 1 rfl) ?_
      refine lv_icmp_eq (tgt := 2193) hx hb dL_law_2188 (by decide) (fun c_4 => ?_) (fun c_4 => ?_)
      · refine lv_iload hx hb dL_law_2193 (lv_at hl 1 rfl) ?_
        refine lv_if_ne (tgt := 2210) hx hb dL_law_2195 (by decide) (fun c_5 => ?_) (fun c_5 => ?_)
        · refine lv_goto (tgt := 4264) hx hb dL_law_2210 (by decide) ?_
          refine W.widen (k := 200 + 300) (n := 8000 + 2000) (Nat.le_of_ble_eq_true rfl) (Nat.le_of_ble_eq_true rfl) ?_
          exact kk _ _ _ hS (lv_sub hl [7, 2] rfl)
        · exact absurd c_5 (by decide)
      · exact absurd c_4 (by decide)
  · obtain ⟨rfl, hw⟩ := hw
    have c_6 := hw
    obtain ⟨hP1, hD1⟩ := hB
    rw [ht1] at hP1
    obtain ⟨hP, hD⟩ := va_join (wr := [((a 200), f_m a g), ((a 204), .inr (5, [.int 0, .ref (g 100), .int 0])), ((a 206), .inr (5, [.int 0, .ref (g 100), .int 0]))]) (w1 := [(o1, .inl (g 1, 1, .inr (.inl (fun _ => 0))))]) hP hD [10, 0, 3, 6, 4, 5, 1, 2] [7, 8, 9] rfl rfl (by decide) (by decide) hk1 hFc hP1 hD1
    have hP : va_P D vwCl [((a 200), f_m a g), ((a 204), .inr (5, [.int 0, .ref (g 100), .int 0])), ((a 206), .inr (5, [.int 0, .ref (g 100), .int 0])), (o1, .inl (g 1, 1, .inr (.inl (fun _ => 0))))] H := hP
    have hD : va_D (va_A [] s.heap.size) [((a 200), f_m a g), ((a 204), .inr (5, [.int 0, .ref (g 100), .int 0])), ((a 206), .inr (5, [.int 0, .ref (g 100), .int 0])), (o1, .inl (g 1, 1, .inr (.inl (fun _ => 0))))] := hD
    refine lv_istore (lv' := [(6, .int 0), (0, .ref b), (1, .ref (a 0)), (2, .ref (a 200)), (3, .ref o1), (4, .ref o2), (5, .int 0)]) hx hb dL_law_2168 hl (by decide) rfl (fun ls hl => ?_)
    refine lv_aload_n hx hb dL_law_2170 rfl (lv_at hl 3 rfl) ?_
    refine lv_aload_n hx hb dL_law_2171 rfl (lv_at hl 1 rfl) ?_
    refine lv_iload hx hb dL_law_2172 (lv_at hl 6 rfl) ?_
    refine lv_iconst (v := 1) hx hb dL_law_2174 (by decide) ?_
    refine lv_iadd hx hb dL_law_2175 ?_
    refine r_topi (v := 1) (by decide) ?_
    refine va_sld hx hb hX hbl hbA hS (by unfold vp_in; decide) dL_law_2176 ?_
    refine r_topi (v := xs 1) (congrArg xs (by decide)) ?_
    have hPc : va_P D vwCl [((a 200), f_m a g), ((a 206), .inr (5, [.int 0, .ref (g 100), .int 0])), ((a 204), .inr (5, [.int 0, .ref (g 100), .int 0]))] _ := hP.sub (ws' := [((a 200), f_m a g), ((a 206), .inr (5, [.int 0, .ref (g 100), .int 0])), ((a 204), .inr (5, [.int 0, .ref (g 100), .int 0]))]) [0, 2, 1] rfl
    have hDc : va_D (fun q => z0 ≤ q) [((a 200), f_m a g), ((a 206), .inr (5, [.int 0, .ref (g 100), .int 0])), ((a 204), .inr (5, [.int 0, .ref (g 100), .int 0]))] := (hD.to hAz).pick (ws' := [((a 200), f_m a g), ((a 206), .inr (5, [.int 0, .ref (g 100), .int 0])), ((a 204), .inr (5, [.int 0, .ref (g 100), .int 0]))]) [0, 2, 1] (by decide) rfl
    have hFc := va_free (wc := [((a 200), f_m a g), ((a 206), .inr (5, [.int 0, .ref (g 100), .int 0])), ((a 204), .inr (5, [.int 0, .ref (g 100), .int 0]))]) hD hS hA [0, 2, 1] rfl
    refine va_calli (va_runV (As := [.int (xs 1)]) (rest := []) ⟨hx, hb, hml, hown, ht⟩ (k_X15_signature l D g z0 _ a (xs 1)) (cwV 1 ht (gV w_986 w_988 w_989 w_334 w_987) rfl rfl rfl (by decide +kernel) (le2 rfl rfl)) ⟨PP.blind, va_recv hK.1 hP (ci := 21) (q0 := 0) rfl rfl, PP.mk' hK hZ hz hAz hS hPc hDc⟩ rfl rfl hl.1 rfl (lv_room (Nat.le_of_ble_eq_true rfl)) dL_law_2177 (le2 rfl rfl)) hS (fun q _ h => hFc q h) hFc (fun r u t H locs ht1 hvm hw hB hz1 hk1 hS => ?_)
    rcases hw with hw | hw
    · obtain ⟨rfl, rfl, hw⟩ := hw
      have c_7 := hw
      obtain ⟨hP1, hD1⟩ := hB
      rw [ht1] at hP1
      obtain ⟨hP, hD⟩ := va_join (wr := [(o1, .inl (g 1, 1, .inr (.inl (fun _ => 0))))]) (w1 := [((a 200), f_m a g)]) hP hD [0, 2, 1] [3] rfl rfl (by decide) (by decide) hk1 hFc hP1 hD1
      have hP : va_P D vwCl [(o1, .inl (g 1, 1, .inr (.inl (fun _ => 0)))), ((a 200), f_m a g)] H := hP
      have hD : va_D (va_A [] s.heap.size) [(o1, .inl (g 1, 1, .inr (.inl (fun _ => 0)))), ((a 200), f_m a g)] := hD
      refine lv_istore (lv' := [(7, .int 0), (6, .int 0), (0, .ref b), (1, .ref (a 0)), (2, .ref (a 200)), (3, .ref o1), (4, .ref o2), (5, .int 0)]) hx hb dL_law_2180 hl (by decide) rfl (fun ls hl => ?_)
      refine lv_aload_n hx hb dL_law_2182 rfl (lv_at hl 4 rfl) ?_
      have hPc : va_P D vwCl [((a 200), f_m a g)] _ := hP.sub (ws' := [((a 200), f_m a g)]) [1] rfl
      have hDc : va_D (fun q => z0 ≤ q) [((a 200), f_m a g)] := (hD.to hAz).pick (ws' := [((a 200), f_m a g)]) [1] (by decide) rfl
      have hFc := va_free (wc := [((a 200), f_m a g)]) hD hS hA [1] rfl
      refine va_calli (va_runV (As := []) (rest := []) ⟨hx, hb, hml, hown, ht⟩ (k_X15_thrown l D g z0 _ a) (cwV 0 ht (gV w_772 w_774 w_775 w_334 w_773) rfl rfl rfl (by decide +kernel) (le2 rfl rfl)) ⟨PP.blind, va_recv hK.1 hP (ci := 21) (q0 := 1) rfl rfl, PP.mk' hK hZ hz hAz hS hPc hDc⟩ rfl rfl hl.1 rfl (lv_room (Nat.le_of_ble_eq_true rfl)) dL_law_2183 (le2 rfl rfl)) hS (fun q _ h => hFc q h) hFc (fun r u t H locs ht1 hvm hw hB hz1 hk1 hS => ?_)
      obtain ⟨rfl, hw⟩ := hw
      obtain ⟨hP1, hD1⟩ := hB
      rw [ht1] at hP1
      obtain ⟨hP, hD⟩ := va_join (wr := [(o1, .inl (g 1, 1, .inr (.inl (fun _ => 0))))]) (w1 := [((a 200), f_m a g)]) hP hD [1] [0] rfl rfl (by decide) (by decide) hk1 hFc hP1 hD1
      have hP : va_P D vwCl [(o1, .inl (g 1, 1, .inr (.inl (fun _ => 0)))), ((a 200), f_m a g)] H := hP
      have hD : va_D (va_A [] s.heap.size) [(o1, .inl (g 1, 1, .inr (.inl (fun _ => 0)))), ((a 200), f_m a g)] := hD
      refine lv_iload hx hb dL_law_2186 (lv_at hl 1 rfl) ?_
      refine lv_icmp_eq (tgt := 2193) hx hb dL_law_2188 (by decide) (fun c_8 => ?_) (fun c_8 => ?_)
      · refine lv_iload hx hb dL_law_2193 (lv_at hl 1 rfl) ?_
        refine lv_if_ne (tgt := 2210) hx hb dL_law_2195 (by decide) (fun c_9 => ?_) (fun c_9 => ?_)
        · exact absurd c_9 (by decide)
        · refine lv_aload_n hx hb dL_law_2198 rfl (lv_at hl 5 rfl) ?_
          refine lv_iconst (v := 0) hx hb dL_law_2199 (by decide) ?_
          refine va_lald hx hb hK.1 hP 0 1 rfl rfl (by unfold vp_in; decide) dL_law_2200 ?_
          refine r_topl (v := 0) (by decide) ?_
          refine lv_iload hx hb dL_law_2201 (lv_at hl 0 rfl) ?_
          refine lv_i2l (v := 0) hx hb dL_law_2203 (by decide) ?_
          refine W.lcmp hx hb dL_law_2204 ?_
          refine r_topi (v := 0) (by decide) ?_
          refine lv_if_eq (tgt := 2210) hx hb dL_law_2205 (by decide) (fun c_10 => ?_) (fun c_10 => ?_)
          · refine lv_goto (tgt := 4264) hx hb dL_law_2210 (by decide) ?_
            refine W.widen (k := 200 + 300) (n := 8000 + 2000) (Nat.le_of_ble_eq_true rfl) (Nat.le_of_ble_eq_true rfl) ?_
            exact kk _ _ _ hS (lv_sub hl [7, 2] rfl)
          · exact absurd c_10 (by decide)
      · exact absurd c_8 (by decide)
    · obtain ⟨rfl, rfl, hw⟩ := hw
      have c_11 := hw
      exact absurd c_6 c_11
set_option maxHeartbeats 4000000 in
set_option maxRecDepth 100000 in
theorem lw_case_33 {p : Program} {l : Launch} {e : Env} {s : State} {m : MethodId} {below : List Frame} {meth : Method} {c : Code} {H : Heap} {locs : List Loc} {ls : Array Slot} {Q : State → Prop} {D : va_G} {g : Nat → ClassId} {z0 b : Nat} {xs : Nat → Int32} {a : Nat → Nat} {o1 o2 : Nat} (hfl : l.stackTraces = false) (hx : p.tables.exec = Jvm.exec) (hb : c.code = cL_law) (hml : c.maxLocals = 9) (hown : s.vm.findClass RL = some m.cls) (ht : ∀ w ∈ TG, w.before #[Value.ref b] s = true) (hX : va_X b 6 xs s s.heap) (hbl : b < s.heap.size) (hbA : ¬ va_A [] s.heap.size b) (hK : KK D g s) (hZ : ZZ g z0 s) (hz : z0 ≤ s.heap.size) (hAz : ∀ q, va_A [] s.heap.size q → z0 ≤ q) (hP : va_P D vwCl (lwW a g o1 o2) H) (hD : va_D (va_A [] s.heap.size) (lwW a g o1 o2)) (hS : va_S (va_A [] s.heap.size) s.heap H locs) (hl : lv_has ls 9 [(0, .ref b), (1, .ref (a 0)), (2, .ref (a 200)), (3, .ref o1), (4, .ref o2), (5, .int 0)])
    (kk : ∀ (H : Heap) (locs : List Loc) (ls : Array Slot), va_S (va_A [] s.heap.size) s.heap H locs → lv_has ls 9 [(5, .int 0), (0, .ref b)] → W p l e room_1 s m #[Value.ref b] below meth c H locs (200 + 300) (8000 + 2000) Q (F0 m 4264 ls [])) :
    W p l e room_1 s m #[Value.ref b] below meth c H locs 200 8000 Q (F0 m 2213 ls []) := by
  have hA : ∀ q : Nat, s.heap.size ≤ q → va_A [] s.heap.size q := Anw
  have hP := hP.sub (ws' := [((a 0), f_x a), ((a 1), f_net a), ((a 2), f_book a), ((a 3), f_rows a), ((a 38), .inl (g 1, 12, .inr (.inl (fun _ => 0)))), ((a 39), .inl (g 1, 12, .inr (.inl (fun _ => 0)))), ((a 4), f_words a), ((a 200), f_m a g), ((a 201), .inr (5, [.int 0, .ref (g 100), .int 0])), ((a 206), .inr (5, [.int 0, .ref (g 100), .int 0]))]) [0, 5, 6, 7, 8, 9, 11, 26, 27, 32] rfl
  have hD := hD.sub (ws' := [((a 0), f_x a), ((a 1), f_net a), ((a 2), f_book a), ((a 3), f_rows a), ((a 38), .inl (g 1, 12, .inr (.inl (fun _ => 0)))), ((a 39), .inl (g 1, 12, .inr (.inl (fun _ => 0)))), ((a 4), f_words a), ((a 200), f_m a g), ((a 201), .inr (5, [.int 0, .ref (g 100), .int 0])), ((a 206), .inr (5, [.int 0, .ref (g 100), .int 0]))]) [0, 5, 6, 7, 8, 9, 11, 26, 27, 32] (by decide) rfl
  refine lv_aload_n hx hb dL_law_2213 rfl (lv_at hl 1 rfl) ?_
  have hPc : va_P D vwCl [((a 0), f_x a), ((a 3), f_rows a), ((a 4), f_words a), ((a 38), .inl (g 1, 12, .inr (.inl (fun _ => 0)))), ((a 39), .inl (g 1, 12, .inr (.inl (fun _ => 0)))), ((a 1), f_net a), ((a 2), f_book a)] _ := hP.sub (ws' := [((a 0), f_x a), ((a 3), f_rows a), ((a 4), f_words a), ((a 38), .inl (g 1, 12, .inr (.inl (fun _ => 0)))), ((a 39), .inl (g 1, 12, .inr (.inl (fun _ => 0)))), ((a 1), f_net a), ((a 2), f_book a)]) [0, 3, 6, 4, 5, 1, 2] rfl
  have hDc : va_D (fun q => z0 ≤ q) [((a 0), f_x a), ((a 3), f_rows a), ((a 4), f_words a), ((a 38), .inl (g 1, 12, .inr (.inl (fun _ => 0)))), ((a 39), .inl (g 1, 12, .inr (.inl (fun _ => 0)))), ((a 1), f_net a), ((a 2), f_book a)] := (hD.to hAz).pick (ws' := [((a 0), f_x a), ((a 3), f_rows a), ((a 4), f_words a), ((a 38), .inl (g 1, 12, .inr (.inl (fun _ => 0)))), ((a 39), .inl (g 1, 12, .inr (.inl (fun _ => 0)))), ((a 1), f_net a), ((a 2), f_book a)]) [0, 3, 6, 4, 5, 1, 2] (by decide) rfl
  have hFc := va_free (wc := [((a 0), f_x a), ((a 3), f_rows a), ((a 4), f_words a), ((a 38), .inl (g 1, 12, .inr (.inl (fun _ => 0)))), ((a 39), .inl (g 1, 12, .inr (.inl (fun _ => 0)))), ((a 1), f_net a), ((a 2), f_book a)]) hD hS hA [0, 3, 6, 4, 5, 1, 2] rfl
  refine va_calli (va_runV (As := []) (rest := []) ⟨hx, hb, hml, hown, ht⟩ (k_X11_aliased l D g z0 _ a) (cwV 0 ht (gV w_990 w_992 w_993 w_31 w_991) rfl rfl rfl (by decide +kernel) (le2 rfl rfl)) ⟨PP.blind, va_recv hK.1 hP (ci := 17) (q0 := 0) rfl rfl, PP.mk' hK hZ hz hAz hS hPc hDc⟩ rfl rfl hl.1 rfl (lv_room (Nat.le_of_ble_eq_true rfl)) dL_law_2214 (le2 rfl rfl)) hS (fun q _ h => hFc q h) hFc (fun r u t H locs ht1 hvm hw hB hz1 hk1 hS => ?_)
  obtain ⟨rfl, hw⟩ := hw
  obtain ⟨hP1, hD1⟩ := hB
  rw [ht1] at hP1
  obtain ⟨hP, hD⟩ := va_join (wr := [((a 200), f_m a g), ((a 201), .inr (5, [.int 0, .ref (g 100), .int 0])), ((a 206), .inr (5, [.int 0, .ref (g 100), .int 0]))]) (w1 := []) hP hD [0, 3, 6, 4, 5, 1, 2] [7, 8, 9] rfl rfl (by decide) (by decide) hk1 hFc hP1 hD1
  have hP : va_P D vwCl [((a 200), f_m a g), ((a 201), .inr (5, [.int 0, .ref (g 100), .int 0])), ((a 206), .inr (5, [.int 0, .ref (g 100), .int 0]))] H := hP
  have hD : va_D (va_A [] s.heap.size) [((a 200), f_m a g), ((a 201), .inr (5, [.int 0, .ref (g 100), .int 0])), ((a 206), .inr (5, [.int 0, .ref (g 100), .int 0]))] := hD
  refine lv_aload_n hx hb dL_law_2217 rfl (lv_at hl 2 rfl) ?_
  have hPc : va_P D vwCl [((a 200), f_m a g), ((a 206), .inr (5, [.int 0, .ref (g 100), .int 0])), ((a 201), .inr (5, [.int 0, .ref (g 100), .int 0]))] _ := hP.sub (ws' := [((a 200), f_m a g), ((a 206), .inr (5, [.int 0, .ref (g 100), .int 0])), ((a 201), .inr (5, [.int 0, .ref (g 100), .int 0]))]) [0, 2, 1] rfl
  have hDc : va_D (fun q => z0 ≤ q) [((a 200), f_m a g), ((a 206), .inr (5, [.int 0, .ref (g 100), .int 0])), ((a 201), .inr (5, [.int 0, .ref (g 100), .int 0]))] := (hD.to hAz).pick (ws' := [((a 200), f_m a g), ((a 206), .inr (5, [.int 0, .ref (g 100), .int 0])), ((a 201), .inr (5, [.int 0, .ref (g 100), .int 0]))]) [0, 2, 1] (by decide) rfl
  have hFc := va_free (wc := [((a 200), f_m a g), ((a 206), .inr (5, [.int 0, .ref (g 100), .int 0])), ((a 201), .inr (5, [.int 0, .ref (g 100), .int 0]))]) hD hS hA [0, 2, 1] rfl
  refine va_calli (va_runV (As := []) (rest := [.int 0]) ⟨hx, hb, hml, hown, ht⟩ (k_X15_aliased l D g z0 _ a) (cwV 0 ht (gV w_994 w_996 w_997 w_334 w_995) rfl rfl rfl (by decide +kernel) (le2 rfl rfl)) ⟨PP.blind, va_recv hK.1 hP (ci := 21) (q0 := 0) rfl rfl, PP.mk' hK hZ hz hAz hS hPc hDc⟩ rfl rfl hl.1 rfl (lv_room (Nat.le_of_ble_eq_true rfl)) dL_law_2218 (le2 rfl rfl)) hS (fun q _ h => hFc q h) hFc (fun r u t H locs ht1 hvm hw hB hz1 hk1 hS => ?_)
  obtain ⟨rfl, hw⟩ := hw
  obtain ⟨hP1, hD1⟩ := hB
  rw [ht1] at hP1
  obtain ⟨hP, hD⟩ := va_join (wr := []) (w1 := [((a 200), f_m a g)]) hP hD [0, 2, 1] [] rfl rfl (by decide) (by decide) hk1 hFc hP1 hD1
  have hP : va_P D vwCl [((a 200), f_m a g)] H := hP
  have hD : va_D (va_A [] s.heap.size) [((a 200), f_m a g)] := hD
  refine lv_icmp_eq (tgt := 4264) hx hb dL_law_2221 (by decide) (fun c_1 => ?_) (fun c_1 => ?_)
  · refine W.widen (k := 200 + 300) (n := 8000 + 2000) (Nat.le_of_ble_eq_true rfl) (Nat.le_of_ble_eq_true rfl) ?_
    exact kk _ _ _ hS (lv_sub hl [5, 0] rfl)
  · exact absurd c_1 (by decide)
set_option maxHeartbeats 4000000 in
set_option maxRecDepth 100000 in
theorem lw_case_34 {p : Program} {l : Launch} {e : Env} {s : State} {m : MethodId} {below : List Frame} {meth : Method} {c : Code} {H : Heap} {locs : List Loc} {ls : Array Slot} {Q : State → Prop} {D : va_G} {g : Nat → ClassId} {z0 b : Nat} {xs : Nat → Int32} {a : Nat → Nat} {o1 o2 : Nat} (hfl : l.stackTraces = false) (hx : p.tables.exec = Jvm.exec) (hb : c.code = cL_law) (hml : c.maxLocals = 9) (hown : s.vm.findClass RL = some m.cls) (ht : ∀ w ∈ TG, w.before #[Value.ref b] s = true) (hX : va_X b 6 xs s s.heap) (hbl : b < s.heap.size) (hbA : ¬ va_A [] s.heap.size b) (hK : KK D g s) (hZ : ZZ g z0 s) (hz : z0 ≤ s.heap.size) (hAz : ∀ q, va_A [] s.heap.size q → z0 ≤ q) (hP : va_P D vwCl (lwW a g o1 o2) H) (hD : va_D (va_A [] s.heap.size) (lwW a g o1 o2)) (hS : va_S (va_A [] s.heap.size) s.heap H locs) (hl : lv_has ls 9 [(0, .ref b), (1, .ref (a 0)), (2, .ref (a 200)), (3, .ref o1), (4, .ref o2), (5, .int 0)])
    (kk : ∀ (H : Heap) (locs : List Loc) (ls : Array Slot), va_S (va_A [] s.heap.size) s.heap H locs → lv_has ls 9 [(5, .int 0), (0, .ref b)] → W p l e room_1 s m #[Value.ref b] below meth c H locs (200 + 300) (8000 + 2000) Q (F0 m 4264 ls [])) :
    W p l e room_1 s m #[Value.ref b] below meth c H locs 200 8000 Q (F0 m 2226 ls []) := by
  have hA : ∀ q : Nat, s.heap.size ≤ q → va_A [] s.heap.size q := Anw
  have hP := hP.sub (ws' := [((a 0), f_x a), ((a 1), f_net a), ((a 200), f_m a g), (o1, .inl (g 1, 1, .inr (.inl (fun _ => 0))))]) [0, 5, 26, 61] rfl
  have hD := hD.sub (ws' := [((a 0), f_x a), ((a 1), f_net a), ((a 200), f_m a g), (o1, .inl (g 1, 1, .inr (.inl (fun _ => 0))))]) [0, 5, 26, 61] (by decide) rfl
  refine lv_aload_n hx hb dL_law_2226 rfl (lv_at hl 1 rfl) ?_
  refine lv_aload_n hx hb dL_law_2227 rfl (lv_at hl 0 rfl) ?_
  refine lv_iload hx hb dL_law_2228 (lv_at hl 5 rfl) ?_
  refine lv_iconst (v := 1) hx hb dL_law_2230 (by decide) ?_
  refine lv_iadd hx hb dL_law_2231 ?_
  refine r_topi (v := 1) (by decide) ?_
  refine va_sld hx hb hX hbl hbA hS (by unfold vp_in; decide) dL_law_2232 ?_
  refine r_topi (v := xs 1) (congrArg xs (by decide)) ?_
  refine lv_aload_n hx hb dL_law_2233 rfl (lv_at hl 0 rfl) ?_
  refine lv_iload hx hb dL_law_2234 (lv_at hl 5 rfl) ?_
  refine lv_iconst (v := 2) hx hb dL_law_2236 (by decide) ?_
  refine lv_iadd hx hb dL_law_2237 ?_
  refine r_topi (v := 2) (by decide) ?_
  refine va_sld hx hb hX hbl hbA hS (by unfold vp_in; decide) dL_law_2238 ?_
  refine r_topi (v := xs 2) (congrArg xs (by decide)) ?_
  refine lv_aload_n hx hb dL_law_2239 rfl (lv_at hl 3 rfl) ?_
  have hPc : va_P D vwCl [(o1, .inl (g 1, 1, .inr (.inl (fun _ => 0)))), ((a 0), f_x a), ((a 1), f_net a)] _ := hP.sub (ws' := [(o1, .inl (g 1, 1, .inr (.inl (fun _ => 0)))), ((a 0), f_x a), ((a 1), f_net a)]) [3, 0, 1] rfl
  have hDc : va_D (fun q => z0 ≤ q) [(o1, .inl (g 1, 1, .inr (.inl (fun _ => 0)))), ((a 0), f_x a), ((a 1), f_net a)] := (hD.to hAz).pick (ws' := [(o1, .inl (g 1, 1, .inr (.inl (fun _ => 0)))), ((a 0), f_x a), ((a 1), f_net a)]) [3, 0, 1] (by decide) rfl
  have hFc := va_free (wc := [(o1, .inl (g 1, 1, .inr (.inl (fun _ => 0)))), ((a 0), f_x a), ((a 1), f_net a)]) hD hS hA [3, 0, 1] rfl
  refine va_calli (vx_runSW (As := [.ref (a 0), .int (xs 1), .int (xs 2), .ref o1]) (rest := []) ⟨hx, hb, hml, hown, ht⟩ (k_L_chance l hfl D g z0 _ a (xs 1) (xs 2) o1) (vx_cwSW 4 ht (gS w_998 w_1000 w_767 w_999) rfl rfl rfl (by decide +kernel) (le2 rfl rfl)) ⟨PP.blind, PP.mk' hK hZ hz hAz hS hPc hDc⟩ rfl rfl hl.1 rfl (lv_room (Nat.le_of_ble_eq_true rfl)) dL_law_2240 (le2 rfl rfl)) hS (fun q _ h => hFc q h) hFc (fun r u t H locs ht1 hvm hw hB hz1 hk1 hS => ?_)
  rcases hw with hw | hw
  · obtain ⟨rfl, hw⟩ := hw
    rcases hw with hw | hw | hw | hw
    · have c_1 := hw
      obtain ⟨hP1, hD1⟩ := hB
      rw [ht1] at hP1
      obtain ⟨hP, hD⟩ := va_join (wr := [((a 200), f_m a g)]) (w1 := [(o1, .inl (g 1, 1, .inr (.inl (fun _ => 0))))]) hP hD [3, 0, 1] [2] rfl rfl (by decide) (by decide) hk1 hFc hP1 hD1
      have hP : va_P D vwCl [((a 200), f_m a g), (o1, .inl (g 1, 1, .inr (.inl (fun _ => 0))))] H := hP
      have hD : va_D (va_A [] s.heap.size) [((a 200), f_m a g), (o1, .inl (g 1, 1, .inr (.inl (fun _ => 0))))] := hD
      refine lv_istore (lv' := [(6, .int 1), (0, .ref b), (1, .ref (a 0)), (2, .ref (a 200)), (3, .ref o1), (4, .ref o2), (5, .int 0)]) hx hb dL_law_2243 hl (by decide) rfl (fun ls hl => ?_)
      refine lv_aload_n hx hb dL_law_2245 rfl (lv_at hl 3 rfl) ?_
      refine lv_aload_n hx hb dL_law_2246 rfl (lv_at hl 1 rfl) ?_
      refine lv_iload hx hb dL_law_2247 (lv_at hl 6 rfl) ?_
      refine lv_iconst (v := 1) hx hb dL_law_2249 (by decide) ?_
      refine lv_iadd hx hb dL_law_2250 ?_
      refine r_topi (v := 1) (by decide) ?_
      refine va_sld hx hb hX hbl hbA hS (by unfold vp_in; decide) dL_law_2251 ?_
      refine r_topi (v := xs 1) (congrArg xs (by decide)) ?_
      refine lv_aload_n hx hb dL_law_2252 rfl (lv_at hl 1 rfl) ?_
      refine lv_iload hx hb dL_law_2253 (lv_at hl 6 rfl) ?_
      refine lv_iconst (v := 2) hx hb dL_law_2255 (by decide) ?_
      refine lv_iadd hx hb dL_law_2256 ?_
      refine r_topi (v := 2) (by decide) ?_
      refine va_sld hx hb hX hbl hbA hS (by unfold vp_in; decide) dL_law_2257 ?_
      refine r_topi (v := xs 2) (congrArg xs (by decide)) ?_
      have hPc : va_P D vwCl [((a 200), f_m a g)] _ := hP.sub (ws' := [((a 200), f_m a g)]) [0] rfl
      have hDc : va_D (fun q => z0 ≤ q) [((a 200), f_m a g)] := (hD.to hAz).pick (ws' := [((a 200), f_m a g)]) [0] (by decide) rfl
      have hFc := va_free (wc := [((a 200), f_m a g)]) hD hS hA [0] rfl
      refine va_calli (va_runV (As := [.int (xs 1), .int (xs 2)]) (rest := []) ⟨hx, hb, hml, hown, ht⟩ (k_X15_chance l D g z0 _ a (xs 1) (xs 2)) (cwV 2 ht (gV w_1001 w_1003 w_1004 w_334 w_1002) rfl rfl rfl (by decide +kernel) (le2 rfl rfl)) ⟨PP.blind, va_recv hK.1 hP (ci := 21) (q0 := 0) rfl rfl, PP.mk' hK hZ hz hAz hS hPc hDc⟩ rfl rfl hl.1 rfl (lv_room (Nat.le_of_ble_eq_true rfl)) dL_law_2258 (le2 rfl rfl)) hS (fun q _ h => hFc q h) hFc (fun r u t H locs ht1 hvm hw hB hz1 hk1 hS => ?_)
      rcases hw with hw | hw
      · obtain ⟨rfl, rfl, hw⟩ := hw
        rcases hw with hw | hw | hw | hw
        · have c_2 := hw
          obtain ⟨hP1, hD1⟩ := hB
          rw [ht1] at hP1
          obtain ⟨hP, hD⟩ := va_join (wr := [(o1, .inl (g 1, 1, .inr (.inl (fun _ => 0))))]) (w1 := [((a 200), .inr (21, [.int 1, .ref (a 201), .ref (a 202), .ref (a 203), .ref (a 204), .ref (a 205), .ref (a 206), .int 0, .int 0, .int 0, .int 0, .ref (a 208), .ref (a 209), .ref (a 210), .ref (a 211), .ref (a 212), .int 4, .int 12, .int (-1), .int 0, .ref (g 200), .ref (a 213), .int 0, .int 97, .ref (a 214), .ref (a 215), .ref (a 207), .null, .int 0]))]) hP hD [0] [1] rfl rfl (by decide) (by decide) hk1 hFc hP1 hD1
          have hP : va_P D vwCl [(o1, .inl (g 1, 1, .inr (.inl (fun _ => 0)))), ((a 200), .inr (21, [.int 1, .ref (a 201), .ref (a 202), .ref (a 203), .ref (a 204), .ref (a 205), .ref (a 206), .int 0, .int 0, .int 0, .int 0, .ref (a 208), .ref (a 209), .ref (a 210), .ref (a 211), .ref (a 212), .int 4, .int 12, .int (-1), .int 0, .ref (g 200), .ref (a 213), .int 0, .int 97, .ref (a 214), .ref (a 215), .ref (a 207), .null, .int 0]))] H := hP
          have hD : va_D (va_A [] s.heap.size) [(o1, .inl (g 1, 1, .inr (.inl (fun _ => 0)))), ((a 200), .inr (21, [.int 1, .ref (a 201), .ref (a 202), .ref (a 203), .ref (a 204), .ref (a 205), .ref (a 206), .int 0, .int 0, .int 0, .int 0, .ref (a 208), .ref (a 209), .ref (a 210), .ref (a 211), .ref (a 212), .int 4, .int 12, .int (-1), .int 0, .ref (g 200), .ref (a 213), .int 0, .int 97, .ref (a 214), .ref (a 215), .ref (a 207), .null, .int 0]))] := hD
          refine lv_istore (lv' := [(7, .int 0), (6, .int 1), (0, .ref b), (1, .ref (a 0)), (2, .ref (a 200)), (3, .ref o1), (4, .ref o2), (5, .int 0)]) hx hb dL_law_2261 hl (by decide) rfl (fun ls hl => ?_)
          refine lv_aload_n hx hb dL_law_2263 rfl (lv_at hl 4 rfl) ?_
          have hPc : va_P D vwCl [((a 200), .inr (21, [.int 1, .ref (a 201), .ref (a 202), .ref (a 203), .ref (a 204), .ref (a 205), .ref (a 206), .int 0, .int 0, .int 0, .int 0, .ref (a 208), .ref (a 209), .ref (a 210), .ref (a 211), .ref (a 212), .int 4, .int 12, .int (-1), .int 0, .ref (g 200), .ref (a 213), .int 0, .int 97, .ref (a 214), .ref (a 215), .ref (a 207), .null, .int 0]))] _ := hP.sub (ws' := [((a 200), .inr (21, [.int 1, .ref (a 201), .ref (a 202), .ref (a 203), .ref (a 204), .ref (a 205), .ref (a 206), .int 0, .int 0, .int 0, .int 0, .ref (a 208), .ref (a 209), .ref (a 210), .ref (a 211), .ref (a 212), .int 4, .int 12, .int (-1), .int 0, .ref (g 200), .ref (a 213), .int 0, .int 97, .ref (a 214), .ref (a 215), .ref (a 207), .null, .int 0]))]) [1] rfl
          have hDc : va_D (fun q => z0 ≤ q) [((a 200), .inr (21, [.int 1, .ref (a 201), .ref (a 202), .ref (a 203), .ref (a 204), .ref (a 205), .ref (a 206), .int 0, .int 0, .int 0, .int 0, .ref (a 208), .ref (a 209), .ref (a 210), .ref (a 211), .ref (a 212), .int 4, .int 12, .int (-1), .int 0, .ref (g 200), .ref (a 213), .int 0, .int 97, .ref (a 214), .ref (a 215), .ref (a 207), .null, .int 0]))] := (hD.to hAz).pick (ws' := [((a 200), .inr (21, [.int 1, .ref (a 201), .ref (a 202), .ref (a 203), .ref (a 204), .ref (a 205), .ref (a 206), .int 0, .int 0, .int 0, .int 0, .ref (a 208), .ref (a 209), .ref (a 210), .ref (a 211), .ref (a 212), .int 4, .int 12, .int (-1), .int 0, .ref (g 200), .ref (a 213), .int 0, .int 97, .ref (a 214), .ref (a 215), .ref (a 207), .null, .int 0]))]) [1] (by decide) rfl
          have hFc := va_free (wc := [((a 200), .inr (21, [.int 1, .ref (a 201), .ref (a 202), .ref (a 203), .ref (a 204), .ref (a 205), .ref (a 206), .int 0, .int 0, .int 0, .int 0, .ref (a 208), .ref (a 209), .ref (a 210), .ref (a 211), .ref (a 212), .int 4, .int 12, .int (-1), .int 0, .ref (g 200), .ref (a 213), .int 0, .int 97, .ref (a 214), .ref (a 215), .ref (a 207), .null, .int 0]))]) hD hS hA [1] rfl
          refine va_calli (va_runV (As := []) (rest := []) ⟨hx, hb, hml, hown, ht⟩ (k_X15_thrown_v2 l D g z0 _ a) (cwV 0 ht (gV w_772 w_774 w_775 w_334 w_773) rfl rfl rfl (by decide +kernel) (le2 rfl rfl)) ⟨PP.blind, va_recv hK.1 hP (ci := 21) (q0 := 1) rfl rfl, PP.mk' hK hZ hz hAz hS hPc hDc⟩ rfl rfl hl.1 rfl (lv_room (Nat.le_of_ble_eq_true rfl)) dL_law_2264 (le2 rfl rfl)) hS (fun q _ h => hFc q h) hFc (fun r u t H locs ht1 hvm hw hB hz1 hk1 hS => ?_)
          obtain ⟨rfl, hw⟩ := hw
          obtain ⟨hP1, hD1⟩ := hB
          rw [ht1] at hP1
          obtain ⟨hP, hD⟩ := va_join (wr := [(o1, .inl (g 1, 1, .inr (.inl (fun _ => 0))))]) (w1 := [((a 200), .inr (21, [.int 1, .ref (a 201), .ref (a 202), .ref (a 203), .ref (a 204), .ref (a 205), .ref (a 206), .int 0, .int 0, .int 0, .int 0, .ref (a 208), .ref (a 209), .ref (a 210), .ref (a 211), .ref (a 212), .int 4, .int 12, .int (-1), .int 0, .ref (g 200), .ref (a 213), .int 0, .int 97, .ref (a 214), .ref (a 215), .ref (a 207), .null, .int 0]))]) hP hD [1] [0] rfl rfl (by decide) (by decide) hk1 hFc hP1 hD1
          have hP : va_P D vwCl [(o1, .inl (g 1, 1, .inr (.inl (fun _ => 0)))), ((a 200), .inr (21, [.int 1, .ref (a 201), .ref (a 202), .ref (a 203), .ref (a 204), .ref (a 205), .ref (a 206), .int 0, .int 0, .int 0, .int 0, .ref (a 208), .ref (a 209), .ref (a 210), .ref (a 211), .ref (a 212), .int 4, .int 12, .int (-1), .int 0, .ref (g 200), .ref (a 213), .int 0, .int 97, .ref (a 214), .ref (a 215), .ref (a 207), .null, .int 0]))] H := hP
          have hD : va_D (va_A [] s.heap.size) [(o1, .inl (g 1, 1, .inr (.inl (fun _ => 0)))), ((a 200), .inr (21, [.int 1, .ref (a 201), .ref (a 202), .ref (a 203), .ref (a 204), .ref (a 205), .ref (a 206), .int 0, .int 0, .int 0, .int 0, .ref (a 208), .ref (a 209), .ref (a 210), .ref (a 211), .ref (a 212), .int 4, .int 12, .int (-1), .int 0, .ref (g 200), .ref (a 213), .int 0, .int 97, .ref (a 214), .ref (a 215), .ref (a 207), .null, .int 0]))] := hD
          refine lv_iload hx hb dL_law_2267 (lv_at hl 1 rfl) ?_
          refine lv_icmp_eq (tgt := 2274) hx hb dL_law_2269 (by decide) (fun c_3 => ?_) (fun c_3 => ?_)
          · refine lv_iload hx hb dL_law_2274 (lv_at hl 1 rfl) ?_
            refine lv_if_ne (tgt := 2291) hx hb dL_law_2276 (by decide) (fun c_4 => ?_) (fun c_4 => ?_)
            · refine lv_goto (tgt := 4264) hx hb dL_law_2291 (by decide) ?_
              refine W.widen (k := 200 + 300) (n := 8000 + 2000) (Nat.le_of_ble_eq_true rfl) (Nat.le_of_ble_eq_true rfl) ?_
              exact kk _ _ _ hS (lv_sub hl [7, 2] rfl)
            · exact absurd c_4 (by decide)
          · exact absurd c_3 (by decide)
        · obtain ⟨c_5, c_6⟩ := hw
          exact absurd c_1 c_5
        · obtain ⟨c_7, c_8, c_9⟩ := hw
          exact absurd c_1 c_7
        · obtain ⟨c_10, c_11, c_12, c_13⟩ := hw
          exact absurd c_1 c_10
      · obtain ⟨rfl, rfl, hw⟩ := hw
        obtain ⟨c_14, c_15, c_16, c_17⟩ := hw
        exact absurd c_1 c_14
    · obtain ⟨c_18, c_19⟩ := hw
      obtain ⟨hP1, hD1⟩ := hB
      rw [ht1] at hP1
      obtain ⟨hP, hD⟩ := va_join (wr := [((a 200), f_m a g)]) (w1 := [(o1, .inl (g 1, 1, .inr (.inl (fun _ => 0))))]) hP hD [3, 0, 1] [2] rfl rfl (by decide) (by decide) hk1 hFc hP1 hD1
      have hP : va_P D vwCl [((a 200), f_m a g), (o1, .inl (g 1, 1, .inr (.inl (fun _ => 0))))] H := hP
      have hD : va_D (va_A [] s.heap.size) [((a 200), f_m a g), (o1, .inl (g 1, 1, .inr (.inl (fun _ => 0))))] := hD
      refine lv_istore (lv' := [(6, .int 1), (0, .ref b), (1, .ref (a 0)), (2, .ref (a 200)), (3, .ref o1), (4, .ref o2), (5, .int 0)]) hx hb dL_law_2243 hl (by decide) rfl (fun ls hl => ?_)
      refine lv_aload_n hx hb dL_law_2245 rfl (lv_at hl 3 rfl) ?_
      refine lv_aload_n hx hb dL_law_2246 rfl (lv_at hl 1 rfl) ?_
      refine lv_iload hx hb dL_law_2247 (lv_at hl 6 rfl) ?_
      refine lv_iconst (v := 1) hx hb dL_law_2249 (by decide) ?_
      refine lv_iadd hx hb dL_law_2250 ?_
      refine r_topi (v := 1) (by decide) ?_
      refine va_sld hx hb hX hbl hbA hS (by unfold vp_in; decide) dL_law_2251 ?_
      refine r_topi (v := xs 1) (congrArg xs (by decide)) ?_
      refine lv_aload_n hx hb dL_law_2252 rfl (lv_at hl 1 rfl) ?_
      refine lv_iload hx hb dL_law_2253 (lv_at hl 6 rfl) ?_
      refine lv_iconst (v := 2) hx hb dL_law_2255 (by decide) ?_
      refine lv_iadd hx hb dL_law_2256 ?_
      refine r_topi (v := 2) (by decide) ?_
      refine va_sld hx hb hX hbl hbA hS (by unfold vp_in; decide) dL_law_2257 ?_
      refine r_topi (v := xs 2) (congrArg xs (by decide)) ?_
      have hPc : va_P D vwCl [((a 200), f_m a g)] _ := hP.sub (ws' := [((a 200), f_m a g)]) [0] rfl
      have hDc : va_D (fun q => z0 ≤ q) [((a 200), f_m a g)] := (hD.to hAz).pick (ws' := [((a 200), f_m a g)]) [0] (by decide) rfl
      have hFc := va_free (wc := [((a 200), f_m a g)]) hD hS hA [0] rfl
      refine va_calli (va_runV (As := [.int (xs 1), .int (xs 2)]) (rest := []) ⟨hx, hb, hml, hown, ht⟩ (k_X15_chance l D g z0 _ a (xs 1) (xs 2)) (cwV 2 ht (gV w_1001 w_1003 w_1004 w_334 w_1002) rfl rfl rfl (by decide +kernel) (le2 rfl rfl)) ⟨PP.blind, va_recv hK.1 hP (ci := 21) (q0 := 0) rfl rfl, PP.mk' hK hZ hz hAz hS hPc hDc⟩ rfl rfl hl.1 rfl (lv_room (Nat.le_of_ble_eq_true rfl)) dL_law_2258 (le2 rfl rfl)) hS (fun q _ h => hFc q h) hFc (fun r u t H locs ht1 hvm hw hB hz1 hk1 hS => ?_)
      rcases hw with hw | hw
      · obtain ⟨rfl, rfl, hw⟩ := hw
        rcases hw with hw | hw | hw | hw
        · have c_20 := hw
          exact absurd c_20 c_18
        · obtain ⟨c_21, c_22⟩ := hw
          obtain ⟨hP1, hD1⟩ := hB
          rw [ht1] at hP1
          obtain ⟨hP, hD⟩ := va_join (wr := [(o1, .inl (g 1, 1, .inr (.inl (fun _ => 0))))]) (w1 := [((a 200), .inr (21, [.int 1, .ref (a 201), .ref (a 202), .ref (a 203), .ref (a 204), .ref (a 205), .ref (a 206), .int 0, .int 0, .int 0, .int 0, .ref (a 208), .ref (a 209), .ref (a 210), .ref (a 211), .ref (a 212), .int 4, .int 12, .int (-1), .int 0, .ref (g 200), .ref (a 213), .int 0, .int 97, .ref (a 214), .ref (a 215), .ref (a 207), .null, .int 0]))]) hP hD [0] [1] rfl rfl (by decide) (by decide) hk1 hFc hP1 hD1
          have hP : va_P D vwCl [(o1, .inl (g 1, 1, .inr (.inl (fun _ => 0)))), ((a 200), .inr (21, [.int 1, .ref (a 201), .ref (a 202), .ref (a 203), .ref (a 204), .ref (a 205), .ref (a 206), .int 0, .int 0, .int 0, .int 0, .ref (a 208), .ref (a 209), .ref (a 210), .ref (a 211), .ref (a 212), .int 4, .int 12, .int (-1), .int 0, .ref (g 200), .ref (a 213), .int 0, .int 97, .ref (a 214), .ref (a 215), .ref (a 207), .null, .int 0]))] H := hP
          have hD : va_D (va_A [] s.heap.size) [(o1, .inl (g 1, 1, .inr (.inl (fun _ => 0)))), ((a 200), .inr (21, [.int 1, .ref (a 201), .ref (a 202), .ref (a 203), .ref (a 204), .ref (a 205), .ref (a 206), .int 0, .int 0, .int 0, .int 0, .ref (a 208), .ref (a 209), .ref (a 210), .ref (a 211), .ref (a 212), .int 4, .int 12, .int (-1), .int 0, .ref (g 200), .ref (a 213), .int 0, .int 97, .ref (a 214), .ref (a 215), .ref (a 207), .null, .int 0]))] := hD
          refine lv_istore (lv' := [(7, .int 0), (6, .int 1), (0, .ref b), (1, .ref (a 0)), (2, .ref (a 200)), (3, .ref o1), (4, .ref o2), (5, .int 0)]) hx hb dL_law_2261 hl (by decide) rfl (fun ls hl => ?_)
          refine lv_aload_n hx hb dL_law_2263 rfl (lv_at hl 4 rfl) ?_
          have hPc : va_P D vwCl [((a 200), .inr (21, [.int 1, .ref (a 201), .ref (a 202), .ref (a 203), .ref (a 204), .ref (a 205), .ref (a 206), .int 0, .int 0, .int 0, .int 0, .ref (a 208), .ref (a 209), .ref (a 210), .ref (a 211), .ref (a 212), .int 4, .int 12, .int (-1), .int 0, .ref (g 200), .ref (a 213), .int 0, .int 97, .ref (a 214), .ref (a 215), .ref (a 207), .null, .int 0]))] _ := hP.sub (ws' := [((a 200), .inr (21, [.int 1, .ref (a 201), .ref (a 202), .ref (a 203), .ref (a 204), .ref (a 205), .ref (a 206), .int 0, .int 0, .int 0, .int 0, .ref (a 208), .ref (a 209), .ref (a 210), .ref (a 211), .ref (a 212), .int 4, .int 12, .int (-1), .int 0, .ref (g 200), .ref (a 213), .int 0, .int 97, .ref (a 214), .ref (a 215), .ref (a 207), .null, .int 0]))]) [1] rfl
          have hDc : va_D (fun q => z0 ≤ q) [((a 200), .inr (21, [.int 1, .ref (a 201), .ref (a 202), .ref (a 203), .ref (a 204), .ref (a 205), .ref (a 206), .int 0, .int 0, .int 0, .int 0, .ref (a 208), .ref (a 209), .ref (a 210), .ref (a 211), .ref (a 212), .int 4, .int 12, .int (-1), .int 0, .ref (g 200), .ref (a 213), .int 0, .int 97, .ref (a 214), .ref (a 215), .ref (a 207), .null, .int 0]))] := (hD.to hAz).pick (ws' := [((a 200), .inr (21, [.int 1, .ref (a 201), .ref (a 202), .ref (a 203), .ref (a 204), .ref (a 205), .ref (a 206), .int 0, .int 0, .int 0, .int 0, .ref (a 208), .ref (a 209), .ref (a 210), .ref (a 211), .ref (a 212), .int 4, .int 12, .int (-1), .int 0, .ref (g 200), .ref (a 213), .int 0, .int 97, .ref (a 214), .ref (a 215), .ref (a 207), .null, .int 0]))]) [1] (by decide) rfl
          have hFc := va_free (wc := [((a 200), .inr (21, [.int 1, .ref (a 201), .ref (a 202), .ref (a 203), .ref (a 204), .ref (a 205), .ref (a 206), .int 0, .int 0, .int 0, .int 0, .ref (a 208), .ref (a 209), .ref (a 210), .ref (a 211), .ref (a 212), .int 4, .int 12, .int (-1), .int 0, .ref (g 200), .ref (a 213), .int 0, .int 97, .ref (a 214), .ref (a 215), .ref (a 207), .null, .int 0]))]) hD hS hA [1] rfl
          refine va_calli (va_runV (As := []) (rest := []) ⟨hx, hb, hml, hown, ht⟩ (k_X15_thrown_v2 l D g z0 _ a) (cwV 0 ht (gV w_772 w_774 w_775 w_334 w_773) rfl rfl rfl (by decide +kernel) (le2 rfl rfl)) ⟨PP.blind, va_recv hK.1 hP (ci := 21) (q0 := 1) rfl rfl, PP.mk' hK hZ hz hAz hS hPc hDc⟩ rfl rfl hl.1 rfl (lv_room (Nat.le_of_ble_eq_true rfl)) dL_law_2264 (le2 rfl rfl)) hS (fun q _ h => hFc q h) hFc (fun r u t H locs ht1 hvm hw hB hz1 hk1 hS => ?_)
          obtain ⟨rfl, hw⟩ := hw
          obtain ⟨hP1, hD1⟩ := hB
          rw [ht1] at hP1
          obtain ⟨hP, hD⟩ := va_join (wr := [(o1, .inl (g 1, 1, .inr (.inl (fun _ => 0))))]) (w1 := [((a 200), .inr (21, [.int 1, .ref (a 201), .ref (a 202), .ref (a 203), .ref (a 204), .ref (a 205), .ref (a 206), .int 0, .int 0, .int 0, .int 0, .ref (a 208), .ref (a 209), .ref (a 210), .ref (a 211), .ref (a 212), .int 4, .int 12, .int (-1), .int 0, .ref (g 200), .ref (a 213), .int 0, .int 97, .ref (a 214), .ref (a 215), .ref (a 207), .null, .int 0]))]) hP hD [1] [0] rfl rfl (by decide) (by decide) hk1 hFc hP1 hD1
          have hP : va_P D vwCl [(o1, .inl (g 1, 1, .inr (.inl (fun _ => 0)))), ((a 200), .inr (21, [.int 1, .ref (a 201), .ref (a 202), .ref (a 203), .ref (a 204), .ref (a 205), .ref (a 206), .int 0, .int 0, .int 0, .int 0, .ref (a 208), .ref (a 209), .ref (a 210), .ref (a 211), .ref (a 212), .int 4, .int 12, .int (-1), .int 0, .ref (g 200), .ref (a 213), .int 0, .int 97, .ref (a 214), .ref (a 215), .ref (a 207), .null, .int 0]))] H := hP
          have hD : va_D (va_A [] s.heap.size) [(o1, .inl (g 1, 1, .inr (.inl (fun _ => 0)))), ((a 200), .inr (21, [.int 1, .ref (a 201), .ref (a 202), .ref (a 203), .ref (a 204), .ref (a 205), .ref (a 206), .int 0, .int 0, .int 0, .int 0, .ref (a 208), .ref (a 209), .ref (a 210), .ref (a 211), .ref (a 212), .int 4, .int 12, .int (-1), .int 0, .ref (g 200), .ref (a 213), .int 0, .int 97, .ref (a 214), .ref (a 215), .ref (a 207), .null, .int 0]))] := hD
          refine lv_iload hx hb dL_law_2267 (lv_at hl 1 rfl) ?_
          refine lv_icmp_eq (tgt := 2274) hx hb dL_law_2269 (by decide) (fun c_23 => ?_) (fun c_23 => ?_)
          · refine lv_iload hx hb dL_law_2274 (lv_at hl 1 rfl) ?_
            refine lv_if_ne (tgt := 2291) hx hb dL_law_2276 (by decide) (fun c_24 => ?_) (fun c_24 => ?_)
            · refine lv_goto (tgt := 4264) hx hb dL_law_2291 (by decide) ?_
              refine W.widen (k := 200 + 300) (n := 8000 + 2000) (Nat.le_of_ble_eq_true rfl) (Nat.le_of_ble_eq_true rfl) ?_
              exact kk _ _ _ hS (lv_sub hl [7, 2] rfl)
            · exact absurd c_24 (by decide)
          · exact absurd c_23 (by decide)
        · obtain ⟨c_25, c_26, c_27⟩ := hw
          exact absurd (Int.le_trans (lo_nle c_19) (up_nlt c_26)) (by decide)
        · obtain ⟨c_28, c_29, c_30, c_31⟩ := hw
          exact absurd (Int.le_trans (lo_nle c_19) (up_nlt c_29)) (by decide)
      · obtain ⟨rfl, rfl, hw⟩ := hw
        obtain ⟨c_32, c_33, c_34, c_35⟩ := hw
        exact absurd (Int.le_trans (lo_nle c_19) (up_nlt c_33)) (by decide)
    · obtain ⟨c_36, c_37, c_38⟩ := hw
      obtain ⟨hP1, hD1⟩ := hB
      rw [ht1] at hP1
      obtain ⟨hP, hD⟩ := va_join (wr := [((a 200), f_m a g)]) (w1 := [(o1, .inl (g 1, 1, .inr (.inl (fun _ => 0))))]) hP hD [3, 0, 1] [2] rfl rfl (by decide) (by decide) hk1 hFc hP1 hD1
      have hP : va_P D vwCl [((a 200), f_m a g), (o1, .inl (g 1, 1, .inr (.inl (fun _ => 0))))] H := hP
      have hD : va_D (va_A [] s.heap.size) [((a 200), f_m a g), (o1, .inl (g 1, 1, .inr (.inl (fun _ => 0))))] := hD
      refine lv_istore (lv' := [(6, .int 1), (0, .ref b), (1, .ref (a 0)), (2, .ref (a 200)), (3, .ref o1), (4, .ref o2), (5, .int 0)]) hx hb dL_law_2243 hl (by decide) rfl (fun ls hl => ?_)
      refine lv_aload_n hx hb dL_law_2245 rfl (lv_at hl 3 rfl) ?_
      refine lv_aload_n hx hb dL_law_2246 rfl (lv_at hl 1 rfl) ?_
      refine lv_iload hx hb dL_law_2247 (lv_at hl 6 rfl) ?_
      refine lv_iconst (v := 1) hx hb dL_law_2249 (by decide) ?_
      refine lv_iadd hx hb dL_law_2250 ?_
      refine r_topi (v := 1) (by decide) ?_
      refine va_sld hx hb hX hbl hbA hS (by unfold vp_in; decide) dL_law_2251 ?_
      refine r_topi (v := xs 1) (congrArg xs (by decide)) ?_
      refine lv_aload_n hx hb dL_law_2252 rfl (lv_at hl 1 rfl) ?_
      refine lv_iload hx hb dL_law_2253 (lv_at hl 6 rfl) ?_
      refine lv_iconst (v := 2) hx hb dL_law_2255 (by decide) ?_
      refine lv_iadd hx hb dL_law_2256 ?_
      refine r_topi (v := 2) (by decide) ?_
      refine va_sld hx hb hX hbl hbA hS (by unfold vp_in; decide) dL_law_2257 ?_
      refine r_topi (v := xs 2) (congrArg xs (by decide)) ?_
      have hPc : va_P D vwCl [((a 200), f_m a g)] _ := hP.sub (ws' := [((a 200), f_m a g)]) [0] rfl
      have hDc : va_D (fun q => z0 ≤ q) [((a 200), f_m a g)] := (hD.to hAz).pick (ws' := [((a 200), f_m a g)]) [0] (by decide) rfl
      have hFc := va_free (wc := [((a 200), f_m a g)]) hD hS hA [0] rfl
      refine va_calli (va_runV (As := [.int (xs 1), .int (xs 2)]) (rest := []) ⟨hx, hb, hml, hown, ht⟩ (k_X15_chance l D g z0 _ a (xs 1) (xs 2)) (cwV 2 ht (gV w_1001 w_1003 w_1004 w_334 w_1002) rfl rfl rfl (by decide +kernel) (le2 rfl rfl)) ⟨PP.blind, va_recv hK.1 hP (ci := 21) (q0 := 0) rfl rfl, PP.mk' hK hZ hz hAz hS hPc hDc⟩ rfl rfl hl.1 rfl (lv_room (Nat.le_of_ble_eq_true rfl)) dL_law_2258 (le2 rfl rfl)) hS (fun q _ h => hFc q h) hFc (fun r u t H locs ht1 hvm hw hB hz1 hk1 hS => ?_)
      rcases hw with hw | hw
      · obtain ⟨rfl, rfl, hw⟩ := hw
        rcases hw with hw | hw | hw | hw
        · have c_39 := hw
          exact absurd c_39 c_36
        · obtain ⟨c_40, c_41⟩ := hw
          exact absurd (Int.le_trans (lo_lt c_41) (up_le c_37)) (by decide)
        · obtain ⟨c_42, c_43, c_44⟩ := hw
          obtain ⟨hP1, hD1⟩ := hB
          rw [ht1] at hP1
          obtain ⟨hP, hD⟩ := va_join (wr := [(o1, .inl (g 1, 1, .inr (.inl (fun _ => 0))))]) (w1 := [((a 200), .inr (21, [.int 1, .ref (a 201), .ref (a 202), .ref (a 203), .ref (a 204), .ref (a 205), .ref (a 206), .int 0, .int 0, .int 0, .int 0, .ref (a 208), .ref (a 209), .ref (a 210), .ref (a 211), .ref (a 212), .int 4, .int 12, .int (-1), .int 0, .ref (g 200), .ref (a 213), .int 0, .int 97, .ref (a 214), .ref (a 215), .ref (a 207), .null, .int 0]))]) hP hD [0] [1] rfl rfl (by decide) (by decide) hk1 hFc hP1 hD1
          have hP : va_P D vwCl [(o1, .inl (g 1, 1, .inr (.inl (fun _ => 0)))), ((a 200), .inr (21, [.int 1, .ref (a 201), .ref (a 202), .ref (a 203), .ref (a 204), .ref (a 205), .ref (a 206), .int 0, .int 0, .int 0, .int 0, .ref (a 208), .ref (a 209), .ref (a 210), .ref (a 211), .ref (a 212), .int 4, .int 12, .int (-1), .int 0, .ref (g 200), .ref (a 213), .int 0, .int 97, .ref (a 214), .ref (a 215), .ref (a 207), .null, .int 0]))] H := hP
          have hD : va_D (va_A [] s.heap.size) [(o1, .inl (g 1, 1, .inr (.inl (fun _ => 0)))), ((a 200), .inr (21, [.int 1, .ref (a 201), .ref (a 202), .ref (a 203), .ref (a 204), .ref (a 205), .ref (a 206), .int 0, .int 0, .int 0, .int 0, .ref (a 208), .ref (a 209), .ref (a 210), .ref (a 211), .ref (a 212), .int 4, .int 12, .int (-1), .int 0, .ref (g 200), .ref (a 213), .int 0, .int 97, .ref (a 214), .ref (a 215), .ref (a 207), .null, .int 0]))] := hD
          refine lv_istore (lv' := [(7, .int 0), (6, .int 1), (0, .ref b), (1, .ref (a 0)), (2, .ref (a 200)), (3, .ref o1), (4, .ref o2), (5, .int 0)]) hx hb dL_law_2261 hl (by decide) rfl (fun ls hl => ?_)
          refine lv_aload_n hx hb dL_law_2263 rfl (lv_at hl 4 rfl) ?_
          have hPc : va_P D vwCl [((a 200), .inr (21, [.int 1, .ref (a 201), .ref (a 202), .ref (a 203), .ref (a 204), .ref (a 205), .ref (a 206), .int 0, .int 0, .int 0, .int 0, .ref (a 208), .ref (a 209), .ref (a 210), .ref (a 211), .ref (a 212), .int 4, .int 12, .int (-1), .int 0, .ref (g 200), .ref (a 213), .int 0, .int 97, .ref (a 214), .ref (a 215), .ref (a 207), .null, .int 0]))] _ := hP.sub (ws' := [((a 200), .inr (21, [.int 1, .ref (a 201), .ref (a 202), .ref (a 203), .ref (a 204), .ref (a 205), .ref (a 206), .int 0, .int 0, .int 0, .int 0, .ref (a 208), .ref (a 209), .ref (a 210), .ref (a 211), .ref (a 212), .int 4, .int 12, .int (-1), .int 0, .ref (g 200), .ref (a 213), .int 0, .int 97, .ref (a 214), .ref (a 215), .ref (a 207), .null, .int 0]))]) [1] rfl
          have hDc : va_D (fun q => z0 ≤ q) [((a 200), .inr (21, [.int 1, .ref (a 201), .ref (a 202), .ref (a 203), .ref (a 204), .ref (a 205), .ref (a 206), .int 0, .int 0, .int 0, .int 0, .ref (a 208), .ref (a 209), .ref (a 210), .ref (a 211), .ref (a 212), .int 4, .int 12, .int (-1), .int 0, .ref (g 200), .ref (a 213), .int 0, .int 97, .ref (a 214), .ref (a 215), .ref (a 207), .null, .int 0]))] := (hD.to hAz).pick (ws' := [((a 200), .inr (21, [.int 1, .ref (a 201), .ref (a 202), .ref (a 203), .ref (a 204), .ref (a 205), .ref (a 206), .int 0, .int 0, .int 0, .int 0, .ref (a 208), .ref (a 209), .ref (a 210), .ref (a 211), .ref (a 212), .int 4, .int 12, .int (-1), .int 0, .ref (g 200), .ref (a 213), .int 0, .int 97, .ref (a 214), .ref (a 215), .ref (a 207), .null, .int 0]))]) [1] (by decide) rfl
          have hFc := va_free (wc := [((a 200), .inr (21, [.int 1, .ref (a 201), .ref (a 202), .ref (a 203), .ref (a 204), .ref (a 205), .ref (a 206), .int 0, .int 0, .int 0, .int 0, .ref (a 208), .ref (a 209), .ref (a 210), .ref (a 211), .ref (a 212), .int 4, .int 12, .int (-1), .int 0, .ref (g 200), .ref (a 213), .int 0, .int 97, .ref (a 214), .ref (a 215), .ref (a 207), .null, .int 0]))]) hD hS hA [1] rfl
          refine va_calli (va_runV (As := []) (rest := []) ⟨hx, hb, hml, hown, ht⟩ (k_X15_thrown_v2 l D g z0 _ a) (cwV 0 ht (gV w_772 w_774 w_775 w_334 w_773) rfl rfl rfl (by decide +kernel) (le2 rfl rfl)) ⟨PP.blind, va_recv hK.1 hP (ci := 21) (q0 := 1) rfl rfl, PP.mk' hK hZ hz hAz hS hPc hDc⟩ rfl rfl hl.1 rfl (lv_room (Nat.le_of_ble_eq_true rfl)) dL_law_2264 (le2 rfl rfl)) hS (fun q _ h => hFc q h) hFc (fun r u t H locs ht1 hvm hw hB hz1 hk1 hS => ?_)
          obtain ⟨rfl, hw⟩ := hw
          obtain ⟨hP1, hD1⟩ := hB
          rw [ht1] at hP1
          obtain ⟨hP, hD⟩ := va_join (wr := [(o1, .inl (g 1, 1, .inr (.inl (fun _ => 0))))]) (w1 := [((a 200), .inr (21, [.int 1, .ref (a 201), .ref (a 202), .ref (a 203), .ref (a 204), .ref (a 205), .ref (a 206), .int 0, .int 0, .int 0, .int 0, .ref (a 208), .ref (a 209), .ref (a 210), .ref (a 211), .ref (a 212), .int 4, .int 12, .int (-1), .int 0, .ref (g 200), .ref (a 213), .int 0, .int 97, .ref (a 214), .ref (a 215), .ref (a 207), .null, .int 0]))]) hP hD [1] [0] rfl rfl (by decide) (by decide) hk1 hFc hP1 hD1
          have hP : va_P D vwCl [(o1, .inl (g 1, 1, .inr (.inl (fun _ => 0)))), ((a 200), .inr (21, [.int 1, .ref (a 201), .ref (a 202), .ref (a 203), .ref (a 204), .ref (a 205), .ref (a 206), .int 0, .int 0, .int 0, .int 0, .ref (a 208), .ref (a 209), .ref (a 210), .ref (a 211), .ref (a 212), .int 4, .int 12, .int (-1), .int 0, .ref (g 200), .ref (a 213), .int 0, .int 97, .ref (a 214), .ref (a 215), .ref (a 207), .null, .int 0]))] H := hP
          have hD : va_D (va_A [] s.heap.size) [(o1, .inl (g 1, 1, .inr (.inl (fun _ => 0)))), ((a 200), .inr (21, [.int 1, .ref (a 201), .ref (a 202), .ref (a 203), .ref (a 204), .ref (a 205), .ref (a 206), .int 0, .int 0, .int 0, .int 0, .ref (a 208), .ref (a 209), .ref (a 210), .ref (a 211), .ref (a 212), .int 4, .int 12, .int (-1), .int 0, .ref (g 200), .ref (a 213), .int 0, .int 97, .ref (a 214), .ref (a 215), .ref (a 207), .null, .int 0]))] := hD
          refine lv_iload hx hb dL_law_2267 (lv_at hl 1 rfl) ?_
          refine lv_icmp_eq (tgt := 2274) hx hb dL_law_2269 (by decide) (fun c_45 => ?_) (fun c_45 => ?_)
          · refine lv_iload hx hb dL_law_2274 (lv_at hl 1 rfl) ?_
            refine lv_if_ne (tgt := 2291) hx hb dL_law_2276 (by decide) (fun c_46 => ?_) (fun c_46 => ?_)
            · refine lv_goto (tgt := 4264) hx hb dL_law_2291 (by decide) ?_
              refine W.widen (k := 200 + 300) (n := 8000 + 2000) (Nat.le_of_ble_eq_true rfl) (Nat.le_of_ble_eq_true rfl) ?_
              exact kk _ _ _ hS (lv_sub hl [7, 2] rfl)
            · exact absurd c_46 (by decide)
          · exact absurd c_45 (by decide)
        · obtain ⟨c_47, c_48, c_49, c_50⟩ := hw
          exact absurd c_38 c_49
      · obtain ⟨rfl, rfl, hw⟩ := hw
        obtain ⟨c_51, c_52, c_53, c_54⟩ := hw
        exact absurd c_38 c_53
    · obtain ⟨c_55, c_56, c_57, c_58⟩ := hw
      obtain ⟨hP1, hD1⟩ := hB
      rw [ht1] at hP1
      obtain ⟨hP, hD⟩ := va_join (wr := [((a 200), f_m a g)]) (w1 := [(o1, .inl (g 1, 1, .inr (.inl (fun _ => 0))))]) hP hD [3, 0, 1] [2] rfl rfl (by decide) (by decide) hk1 hFc hP1 hD1
      have hP : va_P D vwCl [((a 200), f_m a g), (o1, .inl (g 1, 1, .inr (.inl (fun _ => 0))))] H := hP
      have hD : va_D (va_A [] s.heap.size) [((a 200), f_m a g), (o1, .inl (g 1, 1, .inr (.inl (fun _ => 0))))] := hD
      refine lv_istore (lv' := [(6, .int 1), (0, .ref b), (1, .ref (a 0)), (2, .ref (a 200)), (3, .ref o1), (4, .ref o2), (5, .int 0)]) hx hb dL_law_2243 hl (by decide) rfl (fun ls hl => ?_)
      refine lv_aload_n hx hb dL_law_2245 rfl (lv_at hl 3 rfl) ?_
      refine lv_aload_n hx hb dL_law_2246 rfl (lv_at hl 1 rfl) ?_
      refine lv_iload hx hb dL_law_2247 (lv_at hl 6 rfl) ?_
      refine lv_iconst (v := 1) hx hb dL_law_2249 (by decide) ?_
      refine lv_iadd hx hb dL_law_2250 ?_
      refine r_topi (v := 1) (by decide) ?_
      refine va_sld hx hb hX hbl hbA hS (by unfold vp_in; decide) dL_law_2251 ?_
      refine r_topi (v := xs 1) (congrArg xs (by decide)) ?_
      refine lv_aload_n hx hb dL_law_2252 rfl (lv_at hl 1 rfl) ?_
      refine lv_iload hx hb dL_law_2253 (lv_at hl 6 rfl) ?_
      refine lv_iconst (v := 2) hx hb dL_law_2255 (by decide) ?_
      refine lv_iadd hx hb dL_law_2256 ?_
      refine r_topi (v := 2) (by decide) ?_
      refine va_sld hx hb hX hbl hbA hS (by unfold vp_in; decide) dL_law_2257 ?_
      refine r_topi (v := xs 2) (congrArg xs (by decide)) ?_
      have hPc : va_P D vwCl [((a 200), f_m a g)] _ := hP.sub (ws' := [((a 200), f_m a g)]) [0] rfl
      have hDc : va_D (fun q => z0 ≤ q) [((a 200), f_m a g)] := (hD.to hAz).pick (ws' := [((a 200), f_m a g)]) [0] (by decide) rfl
      have hFc := va_free (wc := [((a 200), f_m a g)]) hD hS hA [0] rfl
      refine va_calli (va_runV (As := [.int (xs 1), .int (xs 2)]) (rest := []) ⟨hx, hb, hml, hown, ht⟩ (k_X15_chance l D g z0 _ a (xs 1) (xs 2)) (cwV 2 ht (gV w_1001 w_1003 w_1004 w_334 w_1002) rfl rfl rfl (by decide +kernel) (le2 rfl rfl)) ⟨PP.blind, va_recv hK.1 hP (ci := 21) (q0 := 0) rfl rfl, PP.mk' hK hZ hz hAz hS hPc hDc⟩ rfl rfl hl.1 rfl (lv_room (Nat.le_of_ble_eq_true rfl)) dL_law_2258 (le2 rfl rfl)) hS (fun q _ h => hFc q h) hFc (fun r u t H locs ht1 hvm hw hB hz1 hk1 hS => ?_)
      rcases hw with hw | hw
      · obtain ⟨rfl, rfl, hw⟩ := hw
        rcases hw with hw | hw | hw | hw
        · have c_59 := hw
          exact absurd c_59 c_55
        · obtain ⟨c_60, c_61⟩ := hw
          exact absurd (Int.le_trans (lo_lt c_61) (up_le c_56)) (by decide)
        · obtain ⟨c_62, c_63, c_64⟩ := hw
          exact absurd c_64 c_57
        · obtain ⟨c_65, c_66, c_67, c_68⟩ := hw
          obtain ⟨hP1, hD1⟩ := hB
          rw [ht1] at hP1
          obtain ⟨hP, hD⟩ := va_join (wr := [(o1, .inl (g 1, 1, .inr (.inl (fun _ => 0))))]) (w1 := [((a 200), .inr (21, [.int 1, .ref (a 201), .ref (a 202), .ref (a 203), .ref (a 204), .ref (a 205), .ref (a 206), .int 0, .int 0, .int 0, .int 0, .ref (a 208), .ref (a 209), .ref (a 210), .ref (a 211), .ref (a 212), .int 4, .int 12, .int (-1), .int 0, .ref (g 200), .ref (a 213), .int 0, .int 97, .ref (a 214), .ref (a 215), .ref (a 207), .null, .int 0]))]) hP hD [0] [1] rfl rfl (by decide) (by decide) hk1 hFc hP1 hD1
          have hP : va_P D vwCl [(o1, .inl (g 1, 1, .inr (.inl (fun _ => 0)))), ((a 200), .inr (21, [.int 1, .ref (a 201), .ref (a 202), .ref (a 203), .ref (a 204), .ref (a 205), .ref (a 206), .int 0, .int 0, .int 0, .int 0, .ref (a 208), .ref (a 209), .ref (a 210), .ref (a 211), .ref (a 212), .int 4, .int 12, .int (-1), .int 0, .ref (g 200), .ref (a 213), .int 0, .int 97, .ref (a 214), .ref (a 215), .ref (a 207), .null, .int 0]))] H := hP
          have hD : va_D (va_A [] s.heap.size) [(o1, .inl (g 1, 1, .inr (.inl (fun _ => 0)))), ((a 200), .inr (21, [.int 1, .ref (a 201), .ref (a 202), .ref (a 203), .ref (a 204), .ref (a 205), .ref (a 206), .int 0, .int 0, .int 0, .int 0, .ref (a 208), .ref (a 209), .ref (a 210), .ref (a 211), .ref (a 212), .int 4, .int 12, .int (-1), .int 0, .ref (g 200), .ref (a 213), .int 0, .int 97, .ref (a 214), .ref (a 215), .ref (a 207), .null, .int 0]))] := hD
          refine lv_istore (lv' := [(7, .int 0), (6, .int 1), (0, .ref b), (1, .ref (a 0)), (2, .ref (a 200)), (3, .ref o1), (4, .ref o2), (5, .int 0)]) hx hb dL_law_2261 hl (by decide) rfl (fun ls hl => ?_)
          refine lv_aload_n hx hb dL_law_2263 rfl (lv_at hl 4 rfl) ?_
          have hPc : va_P D vwCl [((a 200), .inr (21, [.int 1, .ref (a 201), .ref (a 202), .ref (a 203), .ref (a 204), .ref (a 205), .ref (a 206), .int 0, .int 0, .int 0, .int 0, .ref (a 208), .ref (a 209), .ref (a 210), .ref (a 211), .ref (a 212), .int 4, .int 12, .int (-1), .int 0, .ref (g 200), .ref (a 213), .int 0, .int 97, .ref (a 214), .ref (a 215), .ref (a 207), .null, .int 0]))] _ := hP.sub (ws' := [((a 200), .inr (21, [.int 1, .ref (a 201), .ref (a 202), .ref (a 203), .ref (a 204), .ref (a 205), .ref (a 206), .int 0, .int 0, .int 0, .int 0, .ref (a 208), .ref (a 209), .ref (a 210), .ref (a 211), .ref (a 212), .int 4, .int 12, .int (-1), .int 0, .ref (g 200), .ref (a 213), .int 0, .int 97, .ref (a 214), .ref (a 215), .ref (a 207), .null, .int 0]))]) [1] rfl
          have hDc : va_D (fun q => z0 ≤ q) [((a 200), .inr (21, [.int 1, .ref (a 201), .ref (a 202), .ref (a 203), .ref (a 204), .ref (a 205), .ref (a 206), .int 0, .int 0, .int 0, .int 0, .ref (a 208), .ref (a 209), .ref (a 210), .ref (a 211), .ref (a 212), .int 4, .int 12, .int (-1), .int 0, .ref (g 200), .ref (a 213), .int 0, .int 97, .ref (a 214), .ref (a 215), .ref (a 207), .null, .int 0]))] := (hD.to hAz).pick (ws' := [((a 200), .inr (21, [.int 1, .ref (a 201), .ref (a 202), .ref (a 203), .ref (a 204), .ref (a 205), .ref (a 206), .int 0, .int 0, .int 0, .int 0, .ref (a 208), .ref (a 209), .ref (a 210), .ref (a 211), .ref (a 212), .int 4, .int 12, .int (-1), .int 0, .ref (g 200), .ref (a 213), .int 0, .int 97, .ref (a 214), .ref (a 215), .ref (a 207), .null, .int 0]))]) [1] (by decide) rfl
          have hFc := va_free (wc := [((a 200), .inr (21, [.int 1, .ref (a 201), .ref (a 202), .ref (a 203), .ref (a 204), .ref (a 205), .ref (a 206), .int 0, .int 0, .int 0, .int 0, .ref (a 208), .ref (a 209), .ref (a 210), .ref (a 211), .ref (a 212), .int 4, .int 12, .int (-1), .int 0, .ref (g 200), .ref (a 213), .int 0, .int 97, .ref (a 214), .ref (a 215), .ref (a 207), .null, .int 0]))]) hD hS hA [1] rfl
          refine va_calli (va_runV (As := []) (rest := []) ⟨hx, hb, hml, hown, ht⟩ (k_X15_thrown_v2 l D g z0 _ a) (cwV 0 ht (gV w_772 w_774 w_775 w_334 w_773) rfl rfl rfl (by decide +kernel) (le2 rfl rfl)) ⟨PP.blind, va_recv hK.1 hP (ci := 21) (q0 := 1) rfl rfl, PP.mk' hK hZ hz hAz hS hPc hDc⟩ rfl rfl hl.1 rfl (lv_room (Nat.le_of_ble_eq_true rfl)) dL_law_2264 (le2 rfl rfl)) hS (fun q _ h => hFc q h) hFc (fun r u t H locs ht1 hvm hw hB hz1 hk1 hS => ?_)
          obtain ⟨rfl, hw⟩ := hw
          obtain ⟨hP1, hD1⟩ := hB
          rw [ht1] at hP1
          obtain ⟨hP, hD⟩ := va_join (wr := [(o1, .inl (g 1, 1, .inr (.inl (fun _ => 0))))]) (w1 := [((a 200), .inr (21, [.int 1, .ref (a 201), .ref (a 202), .ref (a 203), .ref (a 204), .ref (a 205), .ref (a 206), .int 0, .int 0, .int 0, .int 0, .ref (a 208), .ref (a 209), .ref (a 210), .ref (a 211), .ref (a 212), .int 4, .int 12, .int (-1), .int 0, .ref (g 200), .ref (a 213), .int 0, .int 97, .ref (a 214), .ref (a 215), .ref (a 207), .null, .int 0]))]) hP hD [1] [0] rfl rfl (by decide) (by decide) hk1 hFc hP1 hD1
          have hP : va_P D vwCl [(o1, .inl (g 1, 1, .inr (.inl (fun _ => 0)))), ((a 200), .inr (21, [.int 1, .ref (a 201), .ref (a 202), .ref (a 203), .ref (a 204), .ref (a 205), .ref (a 206), .int 0, .int 0, .int 0, .int 0, .ref (a 208), .ref (a 209), .ref (a 210), .ref (a 211), .ref (a 212), .int 4, .int 12, .int (-1), .int 0, .ref (g 200), .ref (a 213), .int 0, .int 97, .ref (a 214), .ref (a 215), .ref (a 207), .null, .int 0]))] H := hP
          have hD : va_D (va_A [] s.heap.size) [(o1, .inl (g 1, 1, .inr (.inl (fun _ => 0)))), ((a 200), .inr (21, [.int 1, .ref (a 201), .ref (a 202), .ref (a 203), .ref (a 204), .ref (a 205), .ref (a 206), .int 0, .int 0, .int 0, .int 0, .ref (a 208), .ref (a 209), .ref (a 210), .ref (a 211), .ref (a 212), .int 4, .int 12, .int (-1), .int 0, .ref (g 200), .ref (a 213), .int 0, .int 97, .ref (a 214), .ref (a 215), .ref (a 207), .null, .int 0]))] := hD
          refine lv_iload hx hb dL_law_2267 (lv_at hl 1 rfl) ?_
          refine lv_icmp_eq (tgt := 2274) hx hb dL_law_2269 (by decide) (fun c_69 => ?_) (fun c_69 => ?_)
          · refine lv_iload hx hb dL_law_2274 (lv_at hl 1 rfl) ?_
            refine lv_if_ne (tgt := 2291) hx hb dL_law_2276 (by decide) (fun c_70 => ?_) (fun c_70 => ?_)
            · refine lv_goto (tgt := 4264) hx hb dL_law_2291 (by decide) ?_
              refine W.widen (k := 200 + 300) (n := 8000 + 2000) (Nat.le_of_ble_eq_true rfl) (Nat.le_of_ble_eq_true rfl) ?_
              exact kk _ _ _ hS (lv_sub hl [7, 2] rfl)
            · exact absurd c_70 (by decide)
          · exact absurd c_69 (by decide)
      · obtain ⟨rfl, rfl, hw⟩ := hw
        obtain ⟨c_71, c_72, c_73, c_74⟩ := hw
        exact absurd (Int.le_trans (lo_nle c_58) (up_nlt c_74)) (by decide)
  · obtain ⟨rfl, hw⟩ := hw
    obtain ⟨c_75, c_76, c_77, c_78⟩ := hw
    obtain ⟨hP1, hD1⟩ := hB
    rw [ht1] at hP1
    obtain ⟨hP, hD⟩ := va_join (wr := [((a 200), f_m a g)]) (w1 := [(o1, .inl (g 1, 1, .inr (.inl (fun _ => 0))))]) hP hD [3, 0, 1] [2] rfl rfl (by decide) (by decide) hk1 hFc hP1 hD1
    have hP : va_P D vwCl [((a 200), f_m a g), (o1, .inl (g 1, 1, .inr (.inl (fun _ => 0))))] H := hP
    have hD : va_D (va_A [] s.heap.size) [((a 200), f_m a g), (o1, .inl (g 1, 1, .inr (.inl (fun _ => 0))))] := hD
    refine lv_istore (lv' := [(6, .int 2), (0, .ref b), (1, .ref (a 0)), (2, .ref (a 200)), (3, .ref o1), (4, .ref o2), (5, .int 0)]) hx hb dL_law_2243 hl (by decide) rfl (fun ls hl => ?_)
    refine lv_aload_n hx hb dL_law_2245 rfl (lv_at hl 3 rfl) ?_
    refine lv_aload_n hx hb dL_law_2246 rfl (lv_at hl 1 rfl) ?_
    refine lv_iload hx hb dL_law_2247 (lv_at hl 6 rfl) ?_
    refine lv_iconst (v := 1) hx hb dL_law_2249 (by decide) ?_
    refine lv_iadd hx hb dL_law_2250 ?_
    refine r_topi (v := 1) (by decide) ?_
    refine va_sld hx hb hX hbl hbA hS (by unfold vp_in; decide) dL_law_2251 ?_
    refine r_topi (v := xs 1) (congrArg xs (by decide)) ?_
    refine lv_aload_n hx hb dL_law_2252 rfl (lv_at hl 1 rfl) ?_
    refine lv_iload hx hb dL_law_2253 (lv_at hl 6 rfl) ?_
    refine lv_iconst (v := 2) hx hb dL_law_2255 (by decide) ?_
    refine lv_iadd hx hb dL_law_2256 ?_
    refine r_topi (v := 2) (by decide) ?_
    refine va_sld hx hb hX hbl hbA hS (by unfold vp_in; decide) dL_law_2257 ?_
    refine r_topi (v := xs 2) (congrArg xs (by decide)) ?_
    have hPc : va_P D vwCl [((a 200), f_m a g)] _ := hP.sub (ws' := [((a 200), f_m a g)]) [0] rfl
    have hDc : va_D (fun q => z0 ≤ q) [((a 200), f_m a g)] := (hD.to hAz).pick (ws' := [((a 200), f_m a g)]) [0] (by decide) rfl
    have hFc := va_free (wc := [((a 200), f_m a g)]) hD hS hA [0] rfl
    refine va_calli (va_runV (As := [.int (xs 1), .int (xs 2)]) (rest := []) ⟨hx, hb, hml, hown, ht⟩ (k_X15_chance l D g z0 _ a (xs 1) (xs 2)) (cwV 2 ht (gV w_1001 w_1003 w_1004 w_334 w_1002) rfl rfl rfl (by decide +kernel) (le2 rfl rfl)) ⟨PP.blind, va_recv hK.1 hP (ci := 21) (q0 := 0) rfl rfl, PP.mk' hK hZ hz hAz hS hPc hDc⟩ rfl rfl hl.1 rfl (lv_room (Nat.le_of_ble_eq_true rfl)) dL_law_2258 (le2 rfl rfl)) hS (fun q _ h => hFc q h) hFc (fun r u t H locs ht1 hvm hw hB hz1 hk1 hS => ?_)
    rcases hw with hw | hw
    · obtain ⟨rfl, rfl, hw⟩ := hw
      rcases hw with hw | hw | hw | hw
      · have c_79 := hw
        exact absurd c_79 c_75
      · obtain ⟨c_80, c_81⟩ := hw
        exact absurd (Int.le_trans (lo_lt c_81) (up_le c_76)) (by decide)
      · obtain ⟨c_82, c_83, c_84⟩ := hw
        exact absurd c_84 c_77
      · obtain ⟨c_85, c_86, c_87, c_88⟩ := hw
        exact absurd (Int.le_trans (lo_lt c_88) (up_le c_78)) (by decide)
    · obtain ⟨rfl, rfl, hw⟩ := hw
      obtain ⟨c_89, c_90, c_91, c_92⟩ := hw
      obtain ⟨hP1, hD1⟩ := hB
      rw [ht1] at hP1
      obtain ⟨hP, hD⟩ := va_join (wr := [(o1, .inl (g 1, 1, .inr (.inl (fun _ => 0))))]) (w1 := [((a 200), .inr (21, [.int 2, .ref (a 201), .ref (a 202), .ref (a 203), .ref (a 204), .ref (a 205), .ref (a 206), .int 0, .int 0, .int 0, .int 0, .ref (a 208), .ref (a 209), .ref (a 210), .ref (a 211), .ref (a 212), .int 4, .int 12, .int (-1), .int 0, .ref (g 200), .ref (a 213), .int 0, .int 97, .ref (a 214), .ref (a 215), .ref (a 207), .null, .int 0]))]) hP hD [0] [1] rfl rfl (by decide) (by decide) hk1 hFc hP1 hD1
      have hP : va_P D vwCl [(o1, .inl (g 1, 1, .inr (.inl (fun _ => 0)))), ((a 200), .inr (21, [.int 2, .ref (a 201), .ref (a 202), .ref (a 203), .ref (a 204), .ref (a 205), .ref (a 206), .int 0, .int 0, .int 0, .int 0, .ref (a 208), .ref (a 209), .ref (a 210), .ref (a 211), .ref (a 212), .int 4, .int 12, .int (-1), .int 0, .ref (g 200), .ref (a 213), .int 0, .int 97, .ref (a 214), .ref (a 215), .ref (a 207), .null, .int 0]))] H := hP
      have hD : va_D (va_A [] s.heap.size) [(o1, .inl (g 1, 1, .inr (.inl (fun _ => 0)))), ((a 200), .inr (21, [.int 2, .ref (a 201), .ref (a 202), .ref (a 203), .ref (a 204), .ref (a 205), .ref (a 206), .int 0, .int 0, .int 0, .int 0, .ref (a 208), .ref (a 209), .ref (a 210), .ref (a 211), .ref (a 212), .int 4, .int 12, .int (-1), .int 0, .ref (g 200), .ref (a 213), .int 0, .int 97, .ref (a 214), .ref (a 215), .ref (a 207), .null, .int 0]))] := hD
      refine lv_istore (lv' := [(7, .int 0), (6, .int 2), (0, .ref b), (1, .ref (a 0)), (2, .ref (a 200)), (3, .ref o1), (4, .ref o2), (5, .int 0)]) hx hb dL_law_2261 hl (by decide) rfl (fun ls hl => ?_)
      refine lv_aload_n hx hb dL_law_2263 rfl (lv_at hl 4 rfl) ?_
      have hPc : va_P D vwCl [((a 200), .inr (21, [.int 2, .ref (a 201), .ref (a 202), .ref (a 203), .ref (a 204), .ref (a 205), .ref (a 206), .int 0, .int 0, .int 0, .int 0, .ref (a 208), .ref (a 209), .ref (a 210), .ref (a 211), .ref (a 212), .int 4, .int 12, .int (-1), .int 0, .ref (g 200), .ref (a 213), .int 0, .int 97, .ref (a 214), .ref (a 215), .ref (a 207), .null, .int 0]))] _ := hP.sub (ws' := [((a 200), .inr (21, [.int 2, .ref (a 201), .ref (a 202), .ref (a 203), .ref (a 204), .ref (a 205), .ref (a 206), .int 0, .int 0, .int 0, .int 0, .ref (a 208), .ref (a 209), .ref (a 210), .ref (a 211), .ref (a 212), .int 4, .int 12, .int (-1), .int 0, .ref (g 200), .ref (a 213), .int 0, .int 97, .ref (a 214), .ref (a 215), .ref (a 207), .null, .int 0]))]) [1] rfl
      have hDc : va_D (fun q => z0 ≤ q) [((a 200), .inr (21, [.int 2, .ref (a 201), .ref (a 202), .ref (a 203), .ref (a 204), .ref (a 205), .ref (a 206), .int 0, .int 0, .int 0, .int 0, .ref (a 208), .ref (a 209), .ref (a 210), .ref (a 211), .ref (a 212), .int 4, .int 12, .int (-1), .int 0, .ref (g 200), .ref (a 213), .int 0, .int 97, .ref (a 214), .ref (a 215), .ref (a 207), .null, .int 0]))] := (hD.to hAz).pick (ws' := [((a 200), .inr (21, [.int 2, .ref (a 201), .ref (a 202), .ref (a 203), .ref (a 204), .ref (a 205), .ref (a 206), .int 0, .int 0, .int 0, .int 0, .ref (a 208), .ref (a 209), .ref (a 210), .ref (a 211), .ref (a 212), .int 4, .int 12, .int (-1), .int 0, .ref (g 200), .ref (a 213), .int 0, .int 97, .ref (a 214), .ref (a 215), .ref (a 207), .null, .int 0]))]) [1] (by decide) rfl
      have hFc := va_free (wc := [((a 200), .inr (21, [.int 2, .ref (a 201), .ref (a 202), .ref (a 203), .ref (a 204), .ref (a 205), .ref (a 206), .int 0, .int 0, .int 0, .int 0, .ref (a 208), .ref (a 209), .ref (a 210), .ref (a 211), .ref (a 212), .int 4, .int 12, .int (-1), .int 0, .ref (g 200), .ref (a 213), .int 0, .int 97, .ref (a 214), .ref (a 215), .ref (a 207), .null, .int 0]))]) hD hS hA [1] rfl
      refine va_calli (va_runV (As := []) (rest := []) ⟨hx, hb, hml, hown, ht⟩ (k_X15_thrown_v1 l D g z0 _ a) (cwV 0 ht (gV w_772 w_774 w_775 w_334 w_773) rfl rfl rfl (by decide +kernel) (le2 rfl rfl)) ⟨PP.blind, va_recv hK.1 hP (ci := 21) (q0 := 1) rfl rfl, PP.mk' hK hZ hz hAz hS hPc hDc⟩ rfl rfl hl.1 rfl (lv_room (Nat.le_of_ble_eq_true rfl)) dL_law_2264 (le2 rfl rfl)) hS (fun q _ h => hFc q h) hFc (fun r u t H locs ht1 hvm hw hB hz1 hk1 hS => ?_)
      obtain ⟨rfl, hw⟩ := hw
      obtain ⟨hP1, hD1⟩ := hB
      rw [ht1] at hP1
      obtain ⟨hP, hD⟩ := va_join (wr := [(o1, .inl (g 1, 1, .inr (.inl (fun _ => 0))))]) (w1 := [((a 200), .inr (21, [.int 2, .ref (a 201), .ref (a 202), .ref (a 203), .ref (a 204), .ref (a 205), .ref (a 206), .int 0, .int 0, .int 0, .int 0, .ref (a 208), .ref (a 209), .ref (a 210), .ref (a 211), .ref (a 212), .int 4, .int 12, .int (-1), .int 0, .ref (g 200), .ref (a 213), .int 0, .int 97, .ref (a 214), .ref (a 215), .ref (a 207), .null, .int 0]))]) hP hD [1] [0] rfl rfl (by decide) (by decide) hk1 hFc hP1 hD1
      have hP : va_P D vwCl [(o1, .inl (g 1, 1, .inr (.inl (fun _ => 0)))), ((a 200), .inr (21, [.int 2, .ref (a 201), .ref (a 202), .ref (a 203), .ref (a 204), .ref (a 205), .ref (a 206), .int 0, .int 0, .int 0, .int 0, .ref (a 208), .ref (a 209), .ref (a 210), .ref (a 211), .ref (a 212), .int 4, .int 12, .int (-1), .int 0, .ref (g 200), .ref (a 213), .int 0, .int 97, .ref (a 214), .ref (a 215), .ref (a 207), .null, .int 0]))] H := hP
      have hD : va_D (va_A [] s.heap.size) [(o1, .inl (g 1, 1, .inr (.inl (fun _ => 0)))), ((a 200), .inr (21, [.int 2, .ref (a 201), .ref (a 202), .ref (a 203), .ref (a 204), .ref (a 205), .ref (a 206), .int 0, .int 0, .int 0, .int 0, .ref (a 208), .ref (a 209), .ref (a 210), .ref (a 211), .ref (a 212), .int 4, .int 12, .int (-1), .int 0, .ref (g 200), .ref (a 213), .int 0, .int 97, .ref (a 214), .ref (a 215), .ref (a 207), .null, .int 0]))] := hD
      refine lv_iload hx hb dL_law_2267 (lv_at hl 1 rfl) ?_
      refine lv_icmp_eq (tgt := 2274) hx hb dL_law_2269 (by decide) (fun c_93 => ?_) (fun c_93 => ?_)
      · refine lv_iload hx hb dL_law_2274 (lv_at hl 1 rfl) ?_
        refine lv_if_ne (tgt := 2291) hx hb dL_law_2276 (by decide) (fun c_94 => ?_) (fun c_94 => ?_)
        · refine lv_goto (tgt := 4264) hx hb dL_law_2291 (by decide) ?_
          refine W.widen (k := 200 + 300) (n := 8000 + 2000) (Nat.le_of_ble_eq_true rfl) (Nat.le_of_ble_eq_true rfl) ?_
          exact kk _ _ _ hS (lv_sub hl [7, 2] rfl)
        · exact absurd c_94 (by decide)
      · exact absurd c_93 (by decide)
set_option maxHeartbeats 4000000 in
set_option maxRecDepth 100000 in
theorem lw_case_35 {p : Program} {l : Launch} {e : Env} {s : State} {m : MethodId} {below : List Frame} {meth : Method} {c : Code} {H : Heap} {locs : List Loc} {ls : Array Slot} {Q : State → Prop} {D : va_G} {g : Nat → ClassId} {z0 b : Nat} {xs : Nat → Int32} {a : Nat → Nat} {o1 o2 : Nat} (hfl : l.stackTraces = false) (hx : p.tables.exec = Jvm.exec) (hb : c.code = cL_law) (hml : c.maxLocals = 9) (hown : s.vm.findClass RL = some m.cls) (ht : ∀ w ∈ TG, w.before #[Value.ref b] s = true) (hX : va_X b 6 xs s s.heap) (hbl : b < s.heap.size) (hbA : ¬ va_A [] s.heap.size b) (hK : KK D g s) (hZ : ZZ g z0 s) (hz : z0 ≤ s.heap.size) (hAz : ∀ q, va_A [] s.heap.size q → z0 ≤ q) (hP : va_P D vwCl (lwW a g o1 o2) H) (hD : va_D (va_A [] s.heap.size) (lwW a g o1 o2)) (hS : va_S (va_A [] s.heap.size) s.heap H locs) (hl : lv_has ls 9 [(0, .ref b), (1, .ref (a 0)), (2, .ref (a 200)), (3, .ref o1), (4, .ref o2), (5, .int 0)])
    (kk : ∀ (H : Heap) (locs : List Loc) (ls : Array Slot), va_S (va_A [] s.heap.size) s.heap H locs → lv_has ls 9 [(5, .int 0), (0, .ref b)] → W p l e room_1 s m #[Value.ref b] below meth c H locs (200 + 300) (8000 + 2000) Q (F0 m 4264 ls [])) :
    W p l e room_1 s m #[Value.ref b] below meth c H locs 200 8000 Q (F0 m 2294 ls []) := by
  have hA : ∀ q : Nat, s.heap.size ≤ q → va_A [] s.heap.size q := Anw
  have hP := hP.sub (ws' := [((a 0), f_x a), ((a 1), f_net a), ((a 200), f_m a g), ((a 201), .inr (5, [.int 0, .ref (g 100), .int 0])), (o1, .inl (g 1, 1, .inr (.inl (fun _ => 0))))]) [0, 5, 26, 27, 61] rfl
  have hD := hD.sub (ws' := [((a 0), f_x a), ((a 1), f_net a), ((a 200), f_m a g), ((a 201), .inr (5, [.int 0, .ref (g 100), .int 0])), (o1, .inl (g 1, 1, .inr (.inl (fun _ => 0))))]) [0, 5, 26, 27, 61] (by decide) rfl
  refine lv_aload_n hx hb dL_law_2294 rfl (lv_at hl 1 rfl) ?_
  refine lv_aload_n hx hb dL_law_2295 rfl (lv_at hl 0 rfl) ?_
  refine lv_iload hx hb dL_law_2296 (lv_at hl 5 rfl) ?_
  refine lv_iconst (v := 1) hx hb dL_law_2298 (by decide) ?_
  refine lv_iadd hx hb dL_law_2299 ?_
  refine r_topi (v := 1) (by decide) ?_
  refine va_sld hx hb hX hbl hbA hS (by unfold vp_in; decide) dL_law_2300 ?_
  refine r_topi (v := xs 1) (congrArg xs (by decide)) ?_
  refine lv_aload_n hx hb dL_law_2301 rfl (lv_at hl 3 rfl) ?_
  have hPc : va_P D vwCl [(o1, .inl (g 1, 1, .inr (.inl (fun _ => 0)))), ((a 0), f_x a), ((a 1), f_net a)] _ := hP.sub (ws' := [(o1, .inl (g 1, 1, .inr (.inl (fun _ => 0)))), ((a 0), f_x a), ((a 1), f_net a)]) [4, 0, 1] rfl
  have hDc : va_D (fun q => z0 ≤ q) [(o1, .inl (g 1, 1, .inr (.inl (fun _ => 0)))), ((a 0), f_x a), ((a 1), f_net a)] := (hD.to hAz).pick (ws' := [(o1, .inl (g 1, 1, .inr (.inl (fun _ => 0)))), ((a 0), f_x a), ((a 1), f_net a)]) [4, 0, 1] (by decide) rfl
  have hFc := va_free (wc := [(o1, .inl (g 1, 1, .inr (.inl (fun _ => 0)))), ((a 0), f_x a), ((a 1), f_net a)]) hD hS hA [4, 0, 1] rfl
  refine va_calli (vx_runSW (As := [.ref (a 0), .int (xs 1), .ref o1]) (rest := []) ⟨hx, hb, hml, hown, ht⟩ (k_L_weight l hfl D g z0 _ a (xs 1) o1) (vx_cwSW 3 ht (gS w_1005 w_1007 w_767 w_1006) rfl rfl rfl (by decide +kernel) (le2 rfl rfl)) ⟨PP.blind, PP.mk' hK hZ hz hAz hS hPc hDc⟩ rfl rfl hl.1 rfl (lv_room (Nat.le_of_ble_eq_true rfl)) dL_law_2302 (le2 rfl rfl)) hS (fun q _ h => hFc q h) hFc (fun r u t H locs ht1 hvm hw hB hz1 hk1 hS => ?_)
  obtain ⟨rfl, hw⟩ := hw
  obtain ⟨hP1, hD1⟩ := hB
  rw [ht1] at hP1
  obtain ⟨hP, hD⟩ := va_join (wr := [((a 200), f_m a g), ((a 201), .inr (5, [.int 0, .ref (g 100), .int 0]))]) (w1 := [(o1, .inl (g 1, 1, .inr (.inl (fun _ => 0))))]) hP hD [4, 0, 1] [2, 3] rfl rfl (by decide) (by decide) hk1 hFc hP1 hD1
  have hP : va_P D vwCl [((a 200), f_m a g), ((a 201), .inr (5, [.int 0, .ref (g 100), .int 0])), (o1, .inl (g 1, 1, .inr (.inl (fun _ => 0))))] H := hP
  have hD : va_D (va_A [] s.heap.size) [((a 200), f_m a g), ((a 201), .inr (5, [.int 0, .ref (g 100), .int 0])), (o1, .inl (g 1, 1, .inr (.inl (fun _ => 0))))] := hD
  refine lv_istore (lv' := [(6, .int 1), (0, .ref b), (1, .ref (a 0)), (2, .ref (a 200)), (3, .ref o1), (4, .ref o2), (5, .int 0)]) hx hb dL_law_2305 hl (by decide) rfl (fun ls hl => ?_)
  refine lv_aload_n hx hb dL_law_2307 rfl (lv_at hl 3 rfl) ?_
  refine lv_aload_n hx hb dL_law_2308 rfl (lv_at hl 1 rfl) ?_
  refine lv_iload hx hb dL_law_2309 (lv_at hl 6 rfl) ?_
  refine lv_iconst (v := 1) hx hb dL_law_2311 (by decide) ?_
  refine lv_iadd hx hb dL_law_2312 ?_
  refine r_topi (v := 1) (by decide) ?_
  refine va_sld hx hb hX hbl hbA hS (by unfold vp_in; decide) dL_law_2313 ?_
  refine r_topi (v := xs 1) (congrArg xs (by decide)) ?_
  have hPc : va_P D vwCl [((a 200), f_m a g), ((a 201), .inr (5, [.int 0, .ref (g 100), .int 0]))] _ := hP.sub (ws' := [((a 200), f_m a g), ((a 201), .inr (5, [.int 0, .ref (g 100), .int 0]))]) [0, 1] rfl
  have hDc : va_D (fun q => z0 ≤ q) [((a 200), f_m a g), ((a 201), .inr (5, [.int 0, .ref (g 100), .int 0]))] := (hD.to hAz).pick (ws' := [((a 200), f_m a g), ((a 201), .inr (5, [.int 0, .ref (g 100), .int 0]))]) [0, 1] (by decide) rfl
  have hFc := va_free (wc := [((a 200), f_m a g), ((a 201), .inr (5, [.int 0, .ref (g 100), .int 0]))]) hD hS hA [0, 1] rfl
  refine va_calli (va_runV (As := [.int (xs 1)]) (rest := []) ⟨hx, hb, hml, hown, ht⟩ (k_X15_weight l D g z0 _ a (xs 1)) (cwV 1 ht (gV w_1008 w_1010 w_1011 w_334 w_1009) rfl rfl rfl (by decide +kernel) (le2 rfl rfl)) ⟨PP.blind, va_recv hK.1 hP (ci := 21) (q0 := 0) rfl rfl, PP.mk' hK hZ hz hAz hS hPc hDc⟩ rfl rfl hl.1 rfl (lv_room (Nat.le_of_ble_eq_true rfl)) dL_law_2314 (le2 rfl rfl)) hS (fun q _ h => hFc q h) hFc (fun r u t H locs ht1 hvm hw hB hz1 hk1 hS => ?_)
  obtain ⟨rfl, hw⟩ := hw
  obtain ⟨hP1, hD1⟩ := hB
  rw [ht1] at hP1
  obtain ⟨hP, hD⟩ := va_join (wr := [(o1, .inl (g 1, 1, .inr (.inl (fun _ => 0))))]) (w1 := [((a 200), .inr (21, [.int 1, .ref (a 201), .ref (a 202), .ref (a 203), .ref (a 204), .ref (a 205), .ref (a 206), .int 0, .int 0, .int 0, .int 0, .ref (a 208), .ref (a 209), .ref (a 210), .ref (a 211), .ref (a 212), .int 4, .int 12, .int (-1), .int 0, .ref (g 200), .ref (a 213), .int 0, .int 97, .ref (a 214), .ref (a 215), .ref (a 207), .null, .int 0]))]) hP hD [0, 1] [2] rfl rfl (by decide) (by decide) hk1 hFc hP1 hD1
  have hP : va_P D vwCl [(o1, .inl (g 1, 1, .inr (.inl (fun _ => 0)))), ((a 200), .inr (21, [.int 1, .ref (a 201), .ref (a 202), .ref (a 203), .ref (a 204), .ref (a 205), .ref (a 206), .int 0, .int 0, .int 0, .int 0, .ref (a 208), .ref (a 209), .ref (a 210), .ref (a 211), .ref (a 212), .int 4, .int 12, .int (-1), .int 0, .ref (g 200), .ref (a 213), .int 0, .int 97, .ref (a 214), .ref (a 215), .ref (a 207), .null, .int 0]))] H := hP
  have hD : va_D (va_A [] s.heap.size) [(o1, .inl (g 1, 1, .inr (.inl (fun _ => 0)))), ((a 200), .inr (21, [.int 1, .ref (a 201), .ref (a 202), .ref (a 203), .ref (a 204), .ref (a 205), .ref (a 206), .int 0, .int 0, .int 0, .int 0, .ref (a 208), .ref (a 209), .ref (a 210), .ref (a 211), .ref (a 212), .int 4, .int 12, .int (-1), .int 0, .ref (g 200), .ref (a 213), .int 0, .int 97, .ref (a 214), .ref (a 215), .ref (a 207), .null, .int 0]))] := hD
  refine lv_istore (lv' := [(7, .int 0), (6, .int 1), (0, .ref b), (1, .ref (a 0)), (2, .ref (a 200)), (3, .ref o1), (4, .ref o2), (5, .int 0)]) hx hb dL_law_2317 hl (by decide) rfl (fun ls hl => ?_)
  refine lv_aload_n hx hb dL_law_2319 rfl (lv_at hl 4 rfl) ?_
  have hPc : va_P D vwCl [((a 200), .inr (21, [.int 1, .ref (a 201), .ref (a 202), .ref (a 203), .ref (a 204), .ref (a 205), .ref (a 206), .int 0, .int 0, .int 0, .int 0, .ref (a 208), .ref (a 209), .ref (a 210), .ref (a 211), .ref (a 212), .int 4, .int 12, .int (-1), .int 0, .ref (g 200), .ref (a 213), .int 0, .int 97, .ref (a 214), .ref (a 215), .ref (a 207), .null, .int 0]))] _ := hP.sub (ws' := [((a 200), .inr (21, [.int 1, .ref (a 201), .ref (a 202), .ref (a 203), .ref (a 204), .ref (a 205), .ref (a 206), .int 0, .int 0, .int 0, .int 0, .ref (a 208), .ref (a 209), .ref (a 210), .ref (a 211), .ref (a 212), .int 4, .int 12, .int (-1), .int 0, .ref (g 200), .ref (a 213), .int 0, .int 97, .ref (a 214), .ref (a 215), .ref (a 207), .null, .int 0]))]) [1] rfl
  have hDc : va_D (fun q => z0 ≤ q) [((a 200), .inr (21, [.int 1, .ref (a 201), .ref (a 202), .ref (a 203), .ref (a 204), .ref (a 205), .ref (a 206), .int 0, .int 0, .int 0, .int 0, .ref (a 208), .ref (a 209), .ref (a 210), .ref (a 211), .ref (a 212), .int 4, .int 12, .int (-1), .int 0, .ref (g 200), .ref (a 213), .int 0, .int 97, .ref (a 214), .ref (a 215), .ref (a 207), .null, .int 0]))] := (hD.to hAz).pick (ws' := [((a 200), .inr (21, [.int 1, .ref (a 201), .ref (a 202), .ref (a 203), .ref (a 204), .ref (a 205), .ref (a 206), .int 0, .int 0, .int 0, .int 0, .ref (a 208), .ref (a 209), .ref (a 210), .ref (a 211), .ref (a 212), .int 4, .int 12, .int (-1), .int 0, .ref (g 200), .ref (a 213), .int 0, .int 97, .ref (a 214), .ref (a 215), .ref (a 207), .null, .int 0]))]) [1] (by decide) rfl
  have hFc := va_free (wc := [((a 200), .inr (21, [.int 1, .ref (a 201), .ref (a 202), .ref (a 203), .ref (a 204), .ref (a 205), .ref (a 206), .int 0, .int 0, .int 0, .int 0, .ref (a 208), .ref (a 209), .ref (a 210), .ref (a 211), .ref (a 212), .int 4, .int 12, .int (-1), .int 0, .ref (g 200), .ref (a 213), .int 0, .int 97, .ref (a 214), .ref (a 215), .ref (a 207), .null, .int 0]))]) hD hS hA [1] rfl
  refine va_calli (va_runV (As := []) (rest := []) ⟨hx, hb, hml, hown, ht⟩ (k_X15_thrown_v2 l D g z0 _ a) (cwV 0 ht (gV w_772 w_774 w_775 w_334 w_773) rfl rfl rfl (by decide +kernel) (le2 rfl rfl)) ⟨PP.blind, va_recv hK.1 hP (ci := 21) (q0 := 1) rfl rfl, PP.mk' hK hZ hz hAz hS hPc hDc⟩ rfl rfl hl.1 rfl (lv_room (Nat.le_of_ble_eq_true rfl)) dL_law_2320 (le2 rfl rfl)) hS (fun q _ h => hFc q h) hFc (fun r u t H locs ht1 hvm hw hB hz1 hk1 hS => ?_)
  obtain ⟨rfl, hw⟩ := hw
  obtain ⟨hP1, hD1⟩ := hB
  rw [ht1] at hP1
  obtain ⟨hP, hD⟩ := va_join (wr := [(o1, .inl (g 1, 1, .inr (.inl (fun _ => 0))))]) (w1 := [((a 200), .inr (21, [.int 1, .ref (a 201), .ref (a 202), .ref (a 203), .ref (a 204), .ref (a 205), .ref (a 206), .int 0, .int 0, .int 0, .int 0, .ref (a 208), .ref (a 209), .ref (a 210), .ref (a 211), .ref (a 212), .int 4, .int 12, .int (-1), .int 0, .ref (g 200), .ref (a 213), .int 0, .int 97, .ref (a 214), .ref (a 215), .ref (a 207), .null, .int 0]))]) hP hD [1] [0] rfl rfl (by decide) (by decide) hk1 hFc hP1 hD1
  have hP : va_P D vwCl [(o1, .inl (g 1, 1, .inr (.inl (fun _ => 0)))), ((a 200), .inr (21, [.int 1, .ref (a 201), .ref (a 202), .ref (a 203), .ref (a 204), .ref (a 205), .ref (a 206), .int 0, .int 0, .int 0, .int 0, .ref (a 208), .ref (a 209), .ref (a 210), .ref (a 211), .ref (a 212), .int 4, .int 12, .int (-1), .int 0, .ref (g 200), .ref (a 213), .int 0, .int 97, .ref (a 214), .ref (a 215), .ref (a 207), .null, .int 0]))] H := hP
  have hD : va_D (va_A [] s.heap.size) [(o1, .inl (g 1, 1, .inr (.inl (fun _ => 0)))), ((a 200), .inr (21, [.int 1, .ref (a 201), .ref (a 202), .ref (a 203), .ref (a 204), .ref (a 205), .ref (a 206), .int 0, .int 0, .int 0, .int 0, .ref (a 208), .ref (a 209), .ref (a 210), .ref (a 211), .ref (a 212), .int 4, .int 12, .int (-1), .int 0, .ref (g 200), .ref (a 213), .int 0, .int 97, .ref (a 214), .ref (a 215), .ref (a 207), .null, .int 0]))] := hD
  refine lv_iload hx hb dL_law_2323 (lv_at hl 1 rfl) ?_
  refine lv_icmp_eq (tgt := 2330) hx hb dL_law_2325 (by decide) (fun c_1 => ?_) (fun c_1 => ?_)
  · refine lv_iload hx hb dL_law_2330 (lv_at hl 1 rfl) ?_
    refine lv_if_ne (tgt := 2347) hx hb dL_law_2332 (by decide) (fun c_2 => ?_) (fun c_2 => ?_)
    · refine lv_goto (tgt := 4264) hx hb dL_law_2347 (by decide) ?_
      refine W.widen (k := 200 + 300) (n := 8000 + 2000) (Nat.le_of_ble_eq_true rfl) (Nat.le_of_ble_eq_true rfl) ?_
      exact kk _ _ _ hS (lv_sub hl [7, 2] rfl)
    · exact absurd c_2 (by decide)
  · exact absurd c_1 (by decide)
set_option maxHeartbeats 4000000 in
set_option maxRecDepth 100000 in
theorem lw_case_36 {p : Program} {l : Launch} {e : Env} {s : State} {m : MethodId} {below : List Frame} {meth : Method} {c : Code} {H : Heap} {locs : List Loc} {ls : Array Slot} {Q : State → Prop} {D : va_G} {g : Nat → ClassId} {z0 b : Nat} {xs : Nat → Int32} {a : Nat → Nat} {o1 o2 : Nat} (hfl : l.stackTraces = false) (hx : p.tables.exec = Jvm.exec) (hb : c.code = cL_law) (hml : c.maxLocals = 9) (hown : s.vm.findClass RL = some m.cls) (ht : ∀ w ∈ TG, w.before #[Value.ref b] s = true) (hX : va_X b 6 xs s s.heap) (hbl : b < s.heap.size) (hbA : ¬ va_A [] s.heap.size b) (hK : KK D g s) (hZ : ZZ g z0 s) (hz : z0 ≤ s.heap.size) (hAz : ∀ q, va_A [] s.heap.size q → z0 ≤ q) (hP : va_P D vwCl (lwW a g o1 o2) H) (hD : va_D (va_A [] s.heap.size) (lwW a g o1 o2)) (hS : va_S (va_A [] s.heap.size) s.heap H locs) (hl : lv_has ls 9 [(0, .ref b), (1, .ref (a 0)), (2, .ref (a 200)), (3, .ref o1), (4, .ref o2), (5, .int 0)])
    (kk : ∀ (H : Heap) (locs : List Loc) (ls : Array Slot), va_S (va_A [] s.heap.size) s.heap H locs → lv_has ls 9 [(5, .int 0), (0, .ref b)] → W p l e room_1 s m #[Value.ref b] below meth c H locs (200 + 300) (8000 + 2000) Q (F0 m 4264 ls [])) :
    W p l e room_1 s m #[Value.ref b] below meth c H locs 200 8000 Q (F0 m 2350 ls []) := by
  have hA : ∀ q : Nat, s.heap.size ≤ q → va_A [] s.heap.size q := Anw
  have hP := hP.sub (ws' := [((a 0), f_x a), ((a 2), f_book a), ((a 200), f_m a g), ((a 204), .inr (5, [.int 0, .ref (g 100), .int 0])), (o1, .inl (g 1, 1, .inr (.inl (fun _ => 0))))]) [0, 6, 26, 30, 61] rfl
  have hD := hD.sub (ws' := [((a 0), f_x a), ((a 2), f_book a), ((a 200), f_m a g), ((a 204), .inr (5, [.int 0, .ref (g 100), .int 0])), (o1, .inl (g 1, 1, .inr (.inl (fun _ => 0))))]) [0, 6, 26, 30, 61] (by decide) rfl
  refine lv_aload_n hx hb dL_law_2350 rfl (lv_at hl 1 rfl) ?_
  refine lv_aload_n hx hb dL_law_2351 rfl (lv_at hl 0 rfl) ?_
  refine lv_iload hx hb dL_law_2352 (lv_at hl 5 rfl) ?_
  refine lv_iconst (v := 1) hx hb dL_law_2354 (by decide) ?_
  refine lv_iadd hx hb dL_law_2355 ?_
  refine r_topi (v := 1) (by decide) ?_
  refine va_sld hx hb hX hbl hbA hS (by unfold vp_in; decide) dL_law_2356 ?_
  refine r_topi (v := xs 1) (congrArg xs (by decide)) ?_
  refine lv_aload_n hx hb dL_law_2357 rfl (lv_at hl 3 rfl) ?_
  have hPc : va_P D vwCl [(o1, .inl (g 1, 1, .inr (.inl (fun _ => 0)))), ((a 0), f_x a), ((a 2), f_book a)] _ := hP.sub (ws' := [(o1, .inl (g 1, 1, .inr (.inl (fun _ => 0)))), ((a 0), f_x a), ((a 2), f_book a)]) [4, 0, 1] rfl
  have hDc : va_D (fun q => z0 ≤ q) [(o1, .inl (g 1, 1, .inr (.inl (fun _ => 0)))), ((a 0), f_x a), ((a 2), f_book a)] := (hD.to hAz).pick (ws' := [(o1, .inl (g 1, 1, .inr (.inl (fun _ => 0)))), ((a 0), f_x a), ((a 2), f_book a)]) [4, 0, 1] (by decide) rfl
  have hFc := va_free (wc := [(o1, .inl (g 1, 1, .inr (.inl (fun _ => 0)))), ((a 0), f_x a), ((a 2), f_book a)]) hD hS hA [4, 0, 1] rfl
  refine va_calli (vx_runSW (As := [.ref (a 0), .int (xs 1), .ref o1]) (rest := []) ⟨hx, hb, hml, hown, ht⟩ (k_L_ways l hfl D g z0 _ a (xs 1) o1) (vx_cwSW 3 ht (gS w_1012 w_1014 w_767 w_1013) rfl rfl rfl (by decide +kernel) (le2 rfl rfl)) ⟨PP.blind, PP.mk' hK hZ hz hAz hS hPc hDc⟩ rfl rfl hl.1 rfl (lv_room (Nat.le_of_ble_eq_true rfl)) dL_law_2358 (le2 rfl rfl)) hS (fun q _ h => hFc q h) hFc (fun r u t H locs ht1 hvm hw hB hz1 hk1 hS => ?_)
  obtain ⟨rfl, hw⟩ := hw
  obtain ⟨hP1, hD1⟩ := hB
  rw [ht1] at hP1
  obtain ⟨hP, hD⟩ := va_join (wr := [((a 200), f_m a g), ((a 204), .inr (5, [.int 0, .ref (g 100), .int 0]))]) (w1 := [(o1, .inl (g 1, 1, .inr (.inl (fun _ => 0))))]) hP hD [4, 0, 1] [2, 3] rfl rfl (by decide) (by decide) hk1 hFc hP1 hD1
  have hP : va_P D vwCl [((a 200), f_m a g), ((a 204), .inr (5, [.int 0, .ref (g 100), .int 0])), (o1, .inl (g 1, 1, .inr (.inl (fun _ => 0))))] H := hP
  have hD : va_D (va_A [] s.heap.size) [((a 200), f_m a g), ((a 204), .inr (5, [.int 0, .ref (g 100), .int 0])), (o1, .inl (g 1, 1, .inr (.inl (fun _ => 0))))] := hD
  refine lv_istore (lv' := [(6, .int 1), (0, .ref b), (1, .ref (a 0)), (2, .ref (a 200)), (3, .ref o1), (4, .ref o2), (5, .int 0)]) hx hb dL_law_2361 hl (by decide) rfl (fun ls hl => ?_)
  refine lv_aload_n hx hb dL_law_2363 rfl (lv_at hl 3 rfl) ?_
  refine lv_aload_n hx hb dL_law_2364 rfl (lv_at hl 1 rfl) ?_
  refine lv_iload hx hb dL_law_2365 (lv_at hl 6 rfl) ?_
  refine lv_iconst (v := 1) hx hb dL_law_2367 (by decide) ?_
  refine lv_iadd hx hb dL_law_2368 ?_
  refine r_topi (v := 1) (by decide) ?_
  refine va_sld hx hb hX hbl hbA hS (by unfold vp_in; decide) dL_law_2369 ?_
  refine r_topi (v := xs 1) (congrArg xs (by decide)) ?_
  have hPc : va_P D vwCl [((a 200), f_m a g), ((a 204), .inr (5, [.int 0, .ref (g 100), .int 0]))] _ := hP.sub (ws' := [((a 200), f_m a g), ((a 204), .inr (5, [.int 0, .ref (g 100), .int 0]))]) [0, 1] rfl
  have hDc : va_D (fun q => z0 ≤ q) [((a 200), f_m a g), ((a 204), .inr (5, [.int 0, .ref (g 100), .int 0]))] := (hD.to hAz).pick (ws' := [((a 200), f_m a g), ((a 204), .inr (5, [.int 0, .ref (g 100), .int 0]))]) [0, 1] (by decide) rfl
  have hFc := va_free (wc := [((a 200), f_m a g), ((a 204), .inr (5, [.int 0, .ref (g 100), .int 0]))]) hD hS hA [0, 1] rfl
  refine va_calli (va_runV (As := [.int (xs 1)]) (rest := []) ⟨hx, hb, hml, hown, ht⟩ (k_X15_ways l D g z0 _ a (xs 1)) (cwV 1 ht (gV w_1015 w_1017 w_1018 w_334 w_1016) rfl rfl rfl (by decide +kernel) (le2 rfl rfl)) ⟨PP.blind, va_recv hK.1 hP (ci := 21) (q0 := 0) rfl rfl, PP.mk' hK hZ hz hAz hS hPc hDc⟩ rfl rfl hl.1 rfl (lv_room (Nat.le_of_ble_eq_true rfl)) dL_law_2370 (le2 rfl rfl)) hS (fun q _ h => hFc q h) hFc (fun r u t H locs ht1 hvm hw hB hz1 hk1 hS => ?_)
  obtain ⟨rfl, hw⟩ := hw
  obtain ⟨hP1, hD1⟩ := hB
  rw [ht1] at hP1
  obtain ⟨hP, hD⟩ := va_join (wr := [(o1, .inl (g 1, 1, .inr (.inl (fun _ => 0))))]) (w1 := [((a 200), .inr (21, [.int 1, .ref (a 201), .ref (a 202), .ref (a 203), .ref (a 204), .ref (a 205), .ref (a 206), .int 0, .int 0, .int 0, .int 0, .ref (a 208), .ref (a 209), .ref (a 210), .ref (a 211), .ref (a 212), .int 4, .int 12, .int (-1), .int 0, .ref (g 200), .ref (a 213), .int 0, .int 97, .ref (a 214), .ref (a 215), .ref (a 207), .null, .int 0]))]) hP hD [0, 1] [2] rfl rfl (by decide) (by decide) hk1 hFc hP1 hD1
  have hP : va_P D vwCl [(o1, .inl (g 1, 1, .inr (.inl (fun _ => 0)))), ((a 200), .inr (21, [.int 1, .ref (a 201), .ref (a 202), .ref (a 203), .ref (a 204), .ref (a 205), .ref (a 206), .int 0, .int 0, .int 0, .int 0, .ref (a 208), .ref (a 209), .ref (a 210), .ref (a 211), .ref (a 212), .int 4, .int 12, .int (-1), .int 0, .ref (g 200), .ref (a 213), .int 0, .int 97, .ref (a 214), .ref (a 215), .ref (a 207), .null, .int 0]))] H := hP
  have hD : va_D (va_A [] s.heap.size) [(o1, .inl (g 1, 1, .inr (.inl (fun _ => 0)))), ((a 200), .inr (21, [.int 1, .ref (a 201), .ref (a 202), .ref (a 203), .ref (a 204), .ref (a 205), .ref (a 206), .int 0, .int 0, .int 0, .int 0, .ref (a 208), .ref (a 209), .ref (a 210), .ref (a 211), .ref (a 212), .int 4, .int 12, .int (-1), .int 0, .ref (g 200), .ref (a 213), .int 0, .int 97, .ref (a 214), .ref (a 215), .ref (a 207), .null, .int 0]))] := hD
  refine lv_istore (lv' := [(7, .int 0), (6, .int 1), (0, .ref b), (1, .ref (a 0)), (2, .ref (a 200)), (3, .ref o1), (4, .ref o2), (5, .int 0)]) hx hb dL_law_2373 hl (by decide) rfl (fun ls hl => ?_)
  refine lv_aload_n hx hb dL_law_2375 rfl (lv_at hl 4 rfl) ?_
  have hPc : va_P D vwCl [((a 200), .inr (21, [.int 1, .ref (a 201), .ref (a 202), .ref (a 203), .ref (a 204), .ref (a 205), .ref (a 206), .int 0, .int 0, .int 0, .int 0, .ref (a 208), .ref (a 209), .ref (a 210), .ref (a 211), .ref (a 212), .int 4, .int 12, .int (-1), .int 0, .ref (g 200), .ref (a 213), .int 0, .int 97, .ref (a 214), .ref (a 215), .ref (a 207), .null, .int 0]))] _ := hP.sub (ws' := [((a 200), .inr (21, [.int 1, .ref (a 201), .ref (a 202), .ref (a 203), .ref (a 204), .ref (a 205), .ref (a 206), .int 0, .int 0, .int 0, .int 0, .ref (a 208), .ref (a 209), .ref (a 210), .ref (a 211), .ref (a 212), .int 4, .int 12, .int (-1), .int 0, .ref (g 200), .ref (a 213), .int 0, .int 97, .ref (a 214), .ref (a 215), .ref (a 207), .null, .int 0]))]) [1] rfl
  have hDc : va_D (fun q => z0 ≤ q) [((a 200), .inr (21, [.int 1, .ref (a 201), .ref (a 202), .ref (a 203), .ref (a 204), .ref (a 205), .ref (a 206), .int 0, .int 0, .int 0, .int 0, .ref (a 208), .ref (a 209), .ref (a 210), .ref (a 211), .ref (a 212), .int 4, .int 12, .int (-1), .int 0, .ref (g 200), .ref (a 213), .int 0, .int 97, .ref (a 214), .ref (a 215), .ref (a 207), .null, .int 0]))] := (hD.to hAz).pick (ws' := [((a 200), .inr (21, [.int 1, .ref (a 201), .ref (a 202), .ref (a 203), .ref (a 204), .ref (a 205), .ref (a 206), .int 0, .int 0, .int 0, .int 0, .ref (a 208), .ref (a 209), .ref (a 210), .ref (a 211), .ref (a 212), .int 4, .int 12, .int (-1), .int 0, .ref (g 200), .ref (a 213), .int 0, .int 97, .ref (a 214), .ref (a 215), .ref (a 207), .null, .int 0]))]) [1] (by decide) rfl
  have hFc := va_free (wc := [((a 200), .inr (21, [.int 1, .ref (a 201), .ref (a 202), .ref (a 203), .ref (a 204), .ref (a 205), .ref (a 206), .int 0, .int 0, .int 0, .int 0, .ref (a 208), .ref (a 209), .ref (a 210), .ref (a 211), .ref (a 212), .int 4, .int 12, .int (-1), .int 0, .ref (g 200), .ref (a 213), .int 0, .int 97, .ref (a 214), .ref (a 215), .ref (a 207), .null, .int 0]))]) hD hS hA [1] rfl
  refine va_calli (va_runV (As := []) (rest := []) ⟨hx, hb, hml, hown, ht⟩ (k_X15_thrown_v2 l D g z0 _ a) (cwV 0 ht (gV w_772 w_774 w_775 w_334 w_773) rfl rfl rfl (by decide +kernel) (le2 rfl rfl)) ⟨PP.blind, va_recv hK.1 hP (ci := 21) (q0 := 1) rfl rfl, PP.mk' hK hZ hz hAz hS hPc hDc⟩ rfl rfl hl.1 rfl (lv_room (Nat.le_of_ble_eq_true rfl)) dL_law_2376 (le2 rfl rfl)) hS (fun q _ h => hFc q h) hFc (fun r u t H locs ht1 hvm hw hB hz1 hk1 hS => ?_)
  obtain ⟨rfl, hw⟩ := hw
  obtain ⟨hP1, hD1⟩ := hB
  rw [ht1] at hP1
  obtain ⟨hP, hD⟩ := va_join (wr := [(o1, .inl (g 1, 1, .inr (.inl (fun _ => 0))))]) (w1 := [((a 200), .inr (21, [.int 1, .ref (a 201), .ref (a 202), .ref (a 203), .ref (a 204), .ref (a 205), .ref (a 206), .int 0, .int 0, .int 0, .int 0, .ref (a 208), .ref (a 209), .ref (a 210), .ref (a 211), .ref (a 212), .int 4, .int 12, .int (-1), .int 0, .ref (g 200), .ref (a 213), .int 0, .int 97, .ref (a 214), .ref (a 215), .ref (a 207), .null, .int 0]))]) hP hD [1] [0] rfl rfl (by decide) (by decide) hk1 hFc hP1 hD1
  have hP : va_P D vwCl [(o1, .inl (g 1, 1, .inr (.inl (fun _ => 0)))), ((a 200), .inr (21, [.int 1, .ref (a 201), .ref (a 202), .ref (a 203), .ref (a 204), .ref (a 205), .ref (a 206), .int 0, .int 0, .int 0, .int 0, .ref (a 208), .ref (a 209), .ref (a 210), .ref (a 211), .ref (a 212), .int 4, .int 12, .int (-1), .int 0, .ref (g 200), .ref (a 213), .int 0, .int 97, .ref (a 214), .ref (a 215), .ref (a 207), .null, .int 0]))] H := hP
  have hD : va_D (va_A [] s.heap.size) [(o1, .inl (g 1, 1, .inr (.inl (fun _ => 0)))), ((a 200), .inr (21, [.int 1, .ref (a 201), .ref (a 202), .ref (a 203), .ref (a 204), .ref (a 205), .ref (a 206), .int 0, .int 0, .int 0, .int 0, .ref (a 208), .ref (a 209), .ref (a 210), .ref (a 211), .ref (a 212), .int 4, .int 12, .int (-1), .int 0, .ref (g 200), .ref (a 213), .int 0, .int 97, .ref (a 214), .ref (a 215), .ref (a 207), .null, .int 0]))] := hD
  refine lv_iload hx hb dL_law_2379 (lv_at hl 1 rfl) ?_
  refine lv_icmp_eq (tgt := 2386) hx hb dL_law_2381 (by decide) (fun c_1 => ?_) (fun c_1 => ?_)
  · refine lv_iload hx hb dL_law_2386 (lv_at hl 1 rfl) ?_
    refine lv_if_ne (tgt := 2403) hx hb dL_law_2388 (by decide) (fun c_2 => ?_) (fun c_2 => ?_)
    · refine lv_goto (tgt := 4264) hx hb dL_law_2403 (by decide) ?_
      refine W.widen (k := 200 + 300) (n := 8000 + 2000) (Nat.le_of_ble_eq_true rfl) (Nat.le_of_ble_eq_true rfl) ?_
      exact kk _ _ _ hS (lv_sub hl [7, 2] rfl)
    · exact absurd c_2 (by decide)
  · exact absurd c_1 (by decide)
set_option maxHeartbeats 4000000 in
set_option maxRecDepth 100000 in
theorem lw_case_37 {p : Program} {l : Launch} {e : Env} {s : State} {m : MethodId} {below : List Frame} {meth : Method} {c : Code} {H : Heap} {locs : List Loc} {ls : Array Slot} {Q : State → Prop} {D : va_G} {g : Nat → ClassId} {z0 b : Nat} {xs : Nat → Int32} {a : Nat → Nat} {o1 o2 : Nat} (hfl : l.stackTraces = false) (hx : p.tables.exec = Jvm.exec) (hb : c.code = cL_law) (hml : c.maxLocals = 9) (hown : s.vm.findClass RL = some m.cls) (ht : ∀ w ∈ TG, w.before #[Value.ref b] s = true) (hX : va_X b 6 xs s s.heap) (hbl : b < s.heap.size) (hbA : ¬ va_A [] s.heap.size b) (hK : KK D g s) (hZ : ZZ g z0 s) (hz : z0 ≤ s.heap.size) (hAz : ∀ q, va_A [] s.heap.size q → z0 ≤ q) (hP : va_P D vwCl (lwW a g o1 o2) H) (hD : va_D (va_A [] s.heap.size) (lwW a g o1 o2)) (hS : va_S (va_A [] s.heap.size) s.heap H locs) (hl : lv_has ls 9 [(0, .ref b), (1, .ref (a 0)), (2, .ref (a 200)), (3, .ref o1), (4, .ref o2), (5, .int 0)])
    (kk : ∀ (H : Heap) (locs : List Loc) (ls : Array Slot), va_S (va_A [] s.heap.size) s.heap H locs → lv_has ls 9 [(5, .int 0), (0, .ref b)] → W p l e room_1 s m #[Value.ref b] below meth c H locs (200 + 300) (8000 + 2000) Q (F0 m 4264 ls [])) :
    W p l e room_1 s m #[Value.ref b] below meth c H locs 200 8000 Q (F0 m 2406 ls []) := by
  have hA : ∀ q : Nat, s.heap.size ≤ q → va_A [] s.heap.size q := Anw
  have hP := hP.sub (ws' := [((a 0), f_x a), ((a 1), f_net a), ((a 2), f_book a), ((a 47), .inl (g 0, 256, .inl (fun _ => 0))), ((a 4), f_words a), ((a 200), f_m a g), ((a 201), .inr (5, [.int 0, .ref (g 100), .int 0])), (o1, .inl (g 1, 1, .inr (.inl (fun _ => 0))))]) [0, 5, 6, 10, 11, 26, 27, 61] rfl
  have hD := hD.sub (ws' := [((a 0), f_x a), ((a 1), f_net a), ((a 2), f_book a), ((a 47), .inl (g 0, 256, .inl (fun _ => 0))), ((a 4), f_words a), ((a 200), f_m a g), ((a 201), .inr (5, [.int 0, .ref (g 100), .int 0])), (o1, .inl (g 1, 1, .inr (.inl (fun _ => 0))))]) [0, 5, 6, 10, 11, 26, 27, 61] (by decide) rfl
  refine lv_aload_n hx hb dL_law_2406 rfl (lv_at hl 1 rfl) ?_
  refine lv_aload_n hx hb dL_law_2407 rfl (lv_at hl 3 rfl) ?_
  have hPc : va_P D vwCl [(o1, .inl (g 1, 1, .inr (.inl (fun _ => 0)))), ((a 0), f_x a), ((a 4), f_words a), ((a 47), .inl (g 0, 256, .inl (fun _ => 0))), ((a 1), f_net a), ((a 2), f_book a)] _ := hP.sub (ws' := [(o1, .inl (g 1, 1, .inr (.inl (fun _ => 0)))), ((a 0), f_x a), ((a 4), f_words a), ((a 47), .inl (g 0, 256, .inl (fun _ => 0))), ((a 1), f_net a), ((a 2), f_book a)]) [7, 0, 4, 3, 1, 2] rfl
  have hDc : va_D (fun q => z0 ≤ q) [(o1, .inl (g 1, 1, .inr (.inl (fun _ => 0)))), ((a 0), f_x a), ((a 4), f_words a), ((a 47), .inl (g 0, 256, .inl (fun _ => 0))), ((a 1), f_net a), ((a 2), f_book a)] := (hD.to hAz).pick (ws' := [(o1, .inl (g 1, 1, .inr (.inl (fun _ => 0)))), ((a 0), f_x a), ((a 4), f_words a), ((a 47), .inl (g 0, 256, .inl (fun _ => 0))), ((a 1), f_net a), ((a 2), f_book a)]) [7, 0, 4, 3, 1, 2] (by decide) rfl
  have hFc := va_free (wc := [(o1, .inl (g 1, 1, .inr (.inl (fun _ => 0)))), ((a 0), f_x a), ((a 4), f_words a), ((a 47), .inl (g 0, 256, .inl (fun _ => 0))), ((a 1), f_net a), ((a 2), f_book a)]) hD hS hA [7, 0, 4, 3, 1, 2] rfl
  refine va_calli (vx_runSW (As := [.ref (a 0), .ref o1]) (rest := []) ⟨hx, hb, hml, hown, ht⟩ (k_L_hardest l hfl D g z0 _ a o1) (vx_cwSW 2 ht (gS w_1019 w_1021 w_767 w_1020) rfl rfl rfl (by decide +kernel) (le2 rfl rfl)) ⟨PP.blind, PP.mk' hK hZ hz hAz hS hPc hDc⟩ rfl rfl hl.1 rfl (lv_room (Nat.le_of_ble_eq_true rfl)) dL_law_2408 (le2 rfl rfl)) hS (fun q _ h => hFc q h) hFc (fun r u t H locs ht1 hvm hw hB hz1 hk1 hS => ?_)
  obtain ⟨rfl, hw⟩ := hw
  obtain ⟨hP1, hD1⟩ := hB
  rw [ht1] at hP1
  obtain ⟨hP, hD⟩ := va_join (wr := [((a 200), f_m a g), ((a 201), .inr (5, [.int 0, .ref (g 100), .int 0]))]) (w1 := [(o1, .inl (g 1, 1, .inr (.inl (fun _ => 0))))]) hP hD [7, 0, 4, 3, 1, 2] [5, 6] rfl rfl (by decide) (by decide) hk1 hFc hP1 hD1
  have hP : va_P D vwCl [((a 200), f_m a g), ((a 201), .inr (5, [.int 0, .ref (g 100), .int 0])), (o1, .inl (g 1, 1, .inr (.inl (fun _ => 0))))] H := hP
  have hD : va_D (va_A [] s.heap.size) [((a 200), f_m a g), ((a 201), .inr (5, [.int 0, .ref (g 100), .int 0])), (o1, .inl (g 1, 1, .inr (.inl (fun _ => 0))))] := hD
  refine lv_istore (lv' := [(6, .int 1), (0, .ref b), (1, .ref (a 0)), (2, .ref (a 200)), (3, .ref o1), (4, .ref o2), (5, .int 0)]) hx hb dL_law_2411 hl (by decide) rfl (fun ls hl => ?_)
  refine lv_aload_n hx hb dL_law_2413 rfl (lv_at hl 3 rfl) ?_
  have hPc : va_P D vwCl [((a 200), f_m a g), ((a 201), .inr (5, [.int 0, .ref (g 100), .int 0]))] _ := hP.sub (ws' := [((a 200), f_m a g), ((a 201), .inr (5, [.int 0, .ref (g 100), .int 0]))]) [0, 1] rfl
  have hDc : va_D (fun q => z0 ≤ q) [((a 200), f_m a g), ((a 201), .inr (5, [.int 0, .ref (g 100), .int 0]))] := (hD.to hAz).pick (ws' := [((a 200), f_m a g), ((a 201), .inr (5, [.int 0, .ref (g 100), .int 0]))]) [0, 1] (by decide) rfl
  have hFc := va_free (wc := [((a 200), f_m a g), ((a 201), .inr (5, [.int 0, .ref (g 100), .int 0]))]) hD hS hA [0, 1] rfl
  refine va_calli (va_runV (As := []) (rest := []) ⟨hx, hb, hml, hown, ht⟩ (k_X15_hardest l D g z0 _ a) (cwV 0 ht (gV w_1022 w_1024 w_1025 w_334 w_1023) rfl rfl rfl (by decide +kernel) (le2 rfl rfl)) ⟨PP.blind, va_recv hK.1 hP (ci := 21) (q0 := 0) rfl rfl, PP.mk' hK hZ hz hAz hS hPc hDc⟩ rfl rfl hl.1 rfl (lv_room (Nat.le_of_ble_eq_true rfl)) dL_law_2414 (le2 rfl rfl)) hS (fun q _ h => hFc q h) hFc (fun r u t H locs ht1 hvm hw hB hz1 hk1 hS => ?_)
  obtain ⟨rfl, hw⟩ := hw
  obtain ⟨hP1, hD1⟩ := hB
  rw [ht1] at hP1
  obtain ⟨hP, hD⟩ := va_join (wr := [(o1, .inl (g 1, 1, .inr (.inl (fun _ => 0))))]) (w1 := [((a 200), .inr (21, [.int 1, .ref (a 201), .ref (a 202), .ref (a 203), .ref (a 204), .ref (a 205), .ref (a 206), .int 0, .int 0, .int 0, .int 0, .ref (a 208), .ref (a 209), .ref (a 210), .ref (a 211), .ref (a 212), .int 4, .int 12, .int (-1), .int 0, .ref (g 200), .ref (a 213), .int 0, .int 97, .ref (a 214), .ref (a 215), .ref (a 207), .null, .int 0]))]) hP hD [0, 1] [2] rfl rfl (by decide) (by decide) hk1 hFc hP1 hD1
  have hP : va_P D vwCl [(o1, .inl (g 1, 1, .inr (.inl (fun _ => 0)))), ((a 200), .inr (21, [.int 1, .ref (a 201), .ref (a 202), .ref (a 203), .ref (a 204), .ref (a 205), .ref (a 206), .int 0, .int 0, .int 0, .int 0, .ref (a 208), .ref (a 209), .ref (a 210), .ref (a 211), .ref (a 212), .int 4, .int 12, .int (-1), .int 0, .ref (g 200), .ref (a 213), .int 0, .int 97, .ref (a 214), .ref (a 215), .ref (a 207), .null, .int 0]))] H := hP
  have hD : va_D (va_A [] s.heap.size) [(o1, .inl (g 1, 1, .inr (.inl (fun _ => 0)))), ((a 200), .inr (21, [.int 1, .ref (a 201), .ref (a 202), .ref (a 203), .ref (a 204), .ref (a 205), .ref (a 206), .int 0, .int 0, .int 0, .int 0, .ref (a 208), .ref (a 209), .ref (a 210), .ref (a 211), .ref (a 212), .int 4, .int 12, .int (-1), .int 0, .ref (g 200), .ref (a 213), .int 0, .int 97, .ref (a 214), .ref (a 215), .ref (a 207), .null, .int 0]))] := hD
  refine lv_istore (lv' := [(7, .int 0), (6, .int 1), (0, .ref b), (1, .ref (a 0)), (2, .ref (a 200)), (3, .ref o1), (4, .ref o2), (5, .int 0)]) hx hb dL_law_2417 hl (by decide) rfl (fun ls hl => ?_)
  refine lv_aload_n hx hb dL_law_2419 rfl (lv_at hl 4 rfl) ?_
  have hPc : va_P D vwCl [((a 200), .inr (21, [.int 1, .ref (a 201), .ref (a 202), .ref (a 203), .ref (a 204), .ref (a 205), .ref (a 206), .int 0, .int 0, .int 0, .int 0, .ref (a 208), .ref (a 209), .ref (a 210), .ref (a 211), .ref (a 212), .int 4, .int 12, .int (-1), .int 0, .ref (g 200), .ref (a 213), .int 0, .int 97, .ref (a 214), .ref (a 215), .ref (a 207), .null, .int 0]))] _ := hP.sub (ws' := [((a 200), .inr (21, [.int 1, .ref (a 201), .ref (a 202), .ref (a 203), .ref (a 204), .ref (a 205), .ref (a 206), .int 0, .int 0, .int 0, .int 0, .ref (a 208), .ref (a 209), .ref (a 210), .ref (a 211), .ref (a 212), .int 4, .int 12, .int (-1), .int 0, .ref (g 200), .ref (a 213), .int 0, .int 97, .ref (a 214), .ref (a 215), .ref (a 207), .null, .int 0]))]) [1] rfl
  have hDc : va_D (fun q => z0 ≤ q) [((a 200), .inr (21, [.int 1, .ref (a 201), .ref (a 202), .ref (a 203), .ref (a 204), .ref (a 205), .ref (a 206), .int 0, .int 0, .int 0, .int 0, .ref (a 208), .ref (a 209), .ref (a 210), .ref (a 211), .ref (a 212), .int 4, .int 12, .int (-1), .int 0, .ref (g 200), .ref (a 213), .int 0, .int 97, .ref (a 214), .ref (a 215), .ref (a 207), .null, .int 0]))] := (hD.to hAz).pick (ws' := [((a 200), .inr (21, [.int 1, .ref (a 201), .ref (a 202), .ref (a 203), .ref (a 204), .ref (a 205), .ref (a 206), .int 0, .int 0, .int 0, .int 0, .ref (a 208), .ref (a 209), .ref (a 210), .ref (a 211), .ref (a 212), .int 4, .int 12, .int (-1), .int 0, .ref (g 200), .ref (a 213), .int 0, .int 97, .ref (a 214), .ref (a 215), .ref (a 207), .null, .int 0]))]) [1] (by decide) rfl
  have hFc := va_free (wc := [((a 200), .inr (21, [.int 1, .ref (a 201), .ref (a 202), .ref (a 203), .ref (a 204), .ref (a 205), .ref (a 206), .int 0, .int 0, .int 0, .int 0, .ref (a 208), .ref (a 209), .ref (a 210), .ref (a 211), .ref (a 212), .int 4, .int 12, .int (-1), .int 0, .ref (g 200), .ref (a 213), .int 0, .int 97, .ref (a 214), .ref (a 215), .ref (a 207), .null, .int 0]))]) hD hS hA [1] rfl
  refine va_calli (va_runV (As := []) (rest := []) ⟨hx, hb, hml, hown, ht⟩ (k_X15_thrown_v2 l D g z0 _ a) (cwV 0 ht (gV w_772 w_774 w_775 w_334 w_773) rfl rfl rfl (by decide +kernel) (le2 rfl rfl)) ⟨PP.blind, va_recv hK.1 hP (ci := 21) (q0 := 1) rfl rfl, PP.mk' hK hZ hz hAz hS hPc hDc⟩ rfl rfl hl.1 rfl (lv_room (Nat.le_of_ble_eq_true rfl)) dL_law_2420 (le2 rfl rfl)) hS (fun q _ h => hFc q h) hFc (fun r u t H locs ht1 hvm hw hB hz1 hk1 hS => ?_)
  obtain ⟨rfl, hw⟩ := hw
  obtain ⟨hP1, hD1⟩ := hB
  rw [ht1] at hP1
  obtain ⟨hP, hD⟩ := va_join (wr := [(o1, .inl (g 1, 1, .inr (.inl (fun _ => 0))))]) (w1 := [((a 200), .inr (21, [.int 1, .ref (a 201), .ref (a 202), .ref (a 203), .ref (a 204), .ref (a 205), .ref (a 206), .int 0, .int 0, .int 0, .int 0, .ref (a 208), .ref (a 209), .ref (a 210), .ref (a 211), .ref (a 212), .int 4, .int 12, .int (-1), .int 0, .ref (g 200), .ref (a 213), .int 0, .int 97, .ref (a 214), .ref (a 215), .ref (a 207), .null, .int 0]))]) hP hD [1] [0] rfl rfl (by decide) (by decide) hk1 hFc hP1 hD1
  have hP : va_P D vwCl [(o1, .inl (g 1, 1, .inr (.inl (fun _ => 0)))), ((a 200), .inr (21, [.int 1, .ref (a 201), .ref (a 202), .ref (a 203), .ref (a 204), .ref (a 205), .ref (a 206), .int 0, .int 0, .int 0, .int 0, .ref (a 208), .ref (a 209), .ref (a 210), .ref (a 211), .ref (a 212), .int 4, .int 12, .int (-1), .int 0, .ref (g 200), .ref (a 213), .int 0, .int 97, .ref (a 214), .ref (a 215), .ref (a 207), .null, .int 0]))] H := hP
  have hD : va_D (va_A [] s.heap.size) [(o1, .inl (g 1, 1, .inr (.inl (fun _ => 0)))), ((a 200), .inr (21, [.int 1, .ref (a 201), .ref (a 202), .ref (a 203), .ref (a 204), .ref (a 205), .ref (a 206), .int 0, .int 0, .int 0, .int 0, .ref (a 208), .ref (a 209), .ref (a 210), .ref (a 211), .ref (a 212), .int 4, .int 12, .int (-1), .int 0, .ref (g 200), .ref (a 213), .int 0, .int 97, .ref (a 214), .ref (a 215), .ref (a 207), .null, .int 0]))] := hD
  refine lv_iload hx hb dL_law_2423 (lv_at hl 1 rfl) ?_
  refine lv_icmp_eq (tgt := 2430) hx hb dL_law_2425 (by decide) (fun c_1 => ?_) (fun c_1 => ?_)
  · refine lv_iload hx hb dL_law_2430 (lv_at hl 1 rfl) ?_
    refine lv_if_ne (tgt := 2447) hx hb dL_law_2432 (by decide) (fun c_2 => ?_) (fun c_2 => ?_)
    · refine lv_goto (tgt := 4264) hx hb dL_law_2447 (by decide) ?_
      refine W.widen (k := 200 + 300) (n := 8000 + 2000) (Nat.le_of_ble_eq_true rfl) (Nat.le_of_ble_eq_true rfl) ?_
      exact kk _ _ _ hS (lv_sub hl [7, 2] rfl)
    · exact absurd c_2 (by decide)
  · exact absurd c_1 (by decide)
