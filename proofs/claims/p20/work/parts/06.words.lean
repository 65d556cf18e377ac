/-! words of the tables, by their places -/
theorem wf6_12 : (.fieldLink RX6 12 RX6 (TX6 0).2.1 (TX6 0).2.2.1 : Cond) ∈ TBLG := List.mem_filter.mpr ⟨List.mem_of_getElem? (i := 221) (by decide +kernel), by decide +kernel⟩
theorem wf6_19 : (.fieldLink RX6 19 RX6 (TX6 1).2.1 (TX6 1).2.2.1 : Cond) ∈ TBLG := List.mem_filter.mpr ⟨List.mem_of_getElem? (i := 222) (by decide +kernel), by decide +kernel⟩
theorem wf6_23 : (.fieldLink RX6 23 RX6 (TX6 2).2.1 (TX6 2).2.2.1 : Cond) ∈ TBLG := List.mem_filter.mpr ⟨List.mem_of_getElem? (i := 223) (by decide +kernel), by decide +kernel⟩
theorem wf6_29 : (.fieldLink RX6 29 RX6 (TX6 4).2.1 (TX6 4).2.2.1 : Cond) ∈ TBLG := List.mem_filter.mpr ⟨List.mem_of_getElem? (i := 225) (by decide +kernel), by decide +kernel⟩
theorem wf6_43 : (.fieldLink RX6 43 RX6 (TX6 6).2.1 (TX6 6).2.2.1 : Cond) ∈ TBLG := List.mem_filter.mpr ⟨List.mem_of_getElem? (i := 227) (by decide +kernel), by decide +kernel⟩
theorem wf6_55 : (.fieldLinkNest RX6 55 RX3 (TX3 1).2.1 (TX3 1).2.2.1 RX6 : Cond) ∈ NWL := List.mem_filter.mpr ⟨List.mem_of_getElem? (i := 122) (by decide +kernel), by decide +kernel⟩
theorem wf6_64 : (.fieldLinkNest RX6 64 RX3 (TX3 2).2.1 (TX3 2).2.2.1 RX6 : Cond) ∈ NWL := List.mem_filter.mpr ⟨List.mem_of_getElem? (i := 124) (by decide +kernel), by decide +kernel⟩
theorem wf6_70 : (.fieldLinkNest RX6 70 RX3 (TX3 3).2.1 (TX3 3).2.2.1 RX6 : Cond) ∈ NWL := List.mem_filter.mpr ⟨List.mem_of_getElem? (i := 126) (by decide +kernel), by decide +kernel⟩
theorem wf6_80 : (.fieldLinkNest RX6 80 RX4 (TX4 1).2.1 (TX4 1).2.2.1 RX6 : Cond) ∈ NWL := List.mem_filter.mpr ⟨List.mem_of_getElem? (i := 105) (by decide +kernel), by decide +kernel⟩
theorem wf6_86 : (.fieldLinkNest RX6 86 RX4 (TX4 0).2.1 (TX4 0).2.2.1 RX6 : Cond) ∈ NWL := List.mem_filter.mpr ⟨List.mem_of_getElem? (i := 102) (by decide +kernel), by decide +kernel⟩
theorem wf6_109 : (.fieldLinkNest RX6 109 RX4 (TX4 2).2.1 (TX4 2).2.2.1 RX6 : Cond) ∈ NWL := List.mem_filter.mpr ⟨List.mem_of_getElem? (i := 108) (by decide +kernel), by decide +kernel⟩
theorem wf6_116 : (.fieldLinkNest RX6 116 RX4 (TX4 3).2.1 (TX4 3).2.2.1 RX6 : Cond) ∈ NWL := List.mem_filter.mpr ⟨List.mem_of_getElem? (i := 110) (by decide +kernel), by decide +kernel⟩
theorem wf6_119 : (.fieldLink RX6 119 RX6 (TX6 3).2.1 (TX6 3).2.2.1 : Cond) ∈ TBLG := List.mem_filter.mpr ⟨List.mem_of_getElem? (i := 224) (by decide +kernel), by decide +kernel⟩
theorem wf6_135 : (.fieldLinkNest RX6 135 RX1 (TX1 2).2.1 (TX1 2).2.2.1 RX6 : Cond) ∈ NWL := List.mem_filter.mpr ⟨List.mem_of_getElem? (i := 92) (by decide +kernel), by decide +kernel⟩
theorem wf6_138 : (.fieldLinkNest RX6 138 RX0 (TX0 1).2.1 (TX0 1).2.2.1 RX6 : Cond) ∈ NWL := List.mem_filter.mpr ⟨List.mem_of_getElem? (i := 199) (by decide +kernel), by decide +kernel⟩
theorem wf6_142 : (.fieldLinkNest RX6 142 RX0 (TX0 2).2.1 (TX0 2).2.2.1 RX6 : Cond) ∈ NWL := List.mem_filter.mpr ⟨List.mem_of_getElem? (i := 201) (by decide +kernel), by decide +kernel⟩
theorem wf6_203 : (.fieldLinkNest RX6 203 RX5 (TX5 2).2.1 (TX5 2).2.2.1 RX6 : Cond) ∈ NWL := List.mem_filter.mpr ⟨List.mem_of_getElem? (i := 181) (by decide +kernel), by decide +kernel⟩
theorem wf0_14 : (.fieldLink RX0 14 RX0 (TX0 1).2.1 (TX0 1).2.2.1 : Cond) ∈ TBLG := List.mem_filter.mpr ⟨List.mem_of_getElem? (i := 197) (by decide +kernel), by decide +kernel⟩
theorem wf0_20 : (.fieldLink RX0 20 RX0 (TX0 3).2.1 (TX0 3).2.2.1 : Cond) ∈ TBLG := List.mem_filter.mpr ⟨List.mem_of_getElem? (i := 202) (by decide +kernel), by decide +kernel⟩
theorem wf0_24 : (.fieldLink RX0 24 RX0 (TX0 4).2.1 (TX0 4).2.2.1 : Cond) ∈ TBLG := List.mem_filter.mpr ⟨List.mem_of_getElem? (i := 203) (by decide +kernel), by decide +kernel⟩
theorem wf0_27 : (.fieldLink RX0 27 RX0 (TX0 5).2.1 (TX0 5).2.2.1 : Cond) ∈ TBLG := List.mem_filter.mpr ⟨List.mem_of_getElem? (i := 204) (by decide +kernel), by decide +kernel⟩
theorem wf0_30 : (.fieldLink RX0 30 RX0 (TX0 6).2.1 (TX0 6).2.2.1 : Cond) ∈ TBLG := List.mem_filter.mpr ⟨List.mem_of_getElem? (i := 205) (by decide +kernel), by decide +kernel⟩
theorem wf0_33 : (.fieldLink RX0 33 RX0 (TX0 0).2.1 (TX0 0).2.2.1 : Cond) ∈ TBLG := List.mem_filter.mpr ⟨List.mem_of_getElem? (i := 196) (by decide +kernel), by decide +kernel⟩
theorem wf0_45 : (.fieldLinkNest RX0 45 RX1 (TX1 2).2.1 (TX1 2).2.2.1 RX6 : Cond) ∈ NWL := List.mem_filter.mpr ⟨List.mem_of_getElem? (i := 91) (by decide +kernel), by decide +kernel⟩
theorem wf0_57 : (.fieldLink RX0 57 RX0 (TX0 2).2.1 (TX0 2).2.2.1 : Cond) ∈ TBLG := List.mem_filter.mpr ⟨List.mem_of_getElem? (i := 200) (by decide +kernel), by decide +kernel⟩
theorem wf1_9 : (.fieldLink RX1 9 RX1 (TX1 2).2.1 (TX1 2).2.2.1 : Cond) ∈ TBLG := List.mem_filter.mpr ⟨List.mem_of_getElem? (i := 88) (by decide +kernel), by decide +kernel⟩
theorem wf1_21 : (.fieldLink RX1 21 RX1 (TX1 0).2.1 (TX1 0).2.2.1 : Cond) ∈ TBLG := List.mem_filter.mpr ⟨List.mem_of_getElem? (i := 86) (by decide +kernel), by decide +kernel⟩
theorem wf1_25 : (.fieldLink RX1 25 RX1 (TX1 1).2.1 (TX1 1).2.2.1 : Cond) ∈ TBLG := List.mem_filter.mpr ⟨List.mem_of_getElem? (i := 87) (by decide +kernel), by decide +kernel⟩
theorem wf3_9 : (.fieldLink RX3 9 RX3 (TX3 0).2.1 (TX3 0).2.2.1 : Cond) ∈ TBLG := List.mem_filter.mpr ⟨List.mem_of_getElem? (i := 120) (by decide +kernel), by decide +kernel⟩
theorem wf3_18 : (.fieldLink RX3 18 RX3 (TX3 3).2.1 (TX3 3).2.2.1 : Cond) ∈ TBLG := List.mem_filter.mpr ⟨List.mem_of_getElem? (i := 125) (by decide +kernel), by decide +kernel⟩
theorem wf3_22 : (.fieldLink RX3 22 RX3 (TX3 1).2.1 (TX3 1).2.2.1 : Cond) ∈ TBLG := List.mem_filter.mpr ⟨List.mem_of_getElem? (i := 121) (by decide +kernel), by decide +kernel⟩
theorem wf3_26 : (.fieldLink RX3 26 RX3 (TX3 2).2.1 (TX3 2).2.2.1 : Cond) ∈ TBLG := List.mem_filter.mpr ⟨List.mem_of_getElem? (i := 123) (by decide +kernel), by decide +kernel⟩
theorem wf3_33 : (.fieldLinkNest RX3 33 RX4 (TX4 0).2.1 (TX4 0).2.2.1 RX6 : Cond) ∈ NWL := List.mem_filter.mpr ⟨List.mem_of_getElem? (i := 103) (by decide +kernel), by decide +kernel⟩
theorem wf3_37 : (.fieldLinkNest RX3 37 RX1 (TX1 2).2.1 (TX1 2).2.2.1 RX6 : Cond) ∈ NWL := List.mem_filter.mpr ⟨List.mem_of_getElem? (i := 90) (by decide +kernel), by decide +kernel⟩
theorem wf3_50 : (.fieldLinkNest RX3 50 RX4 (TX4 1).2.1 (TX4 1).2.2.1 RX6 : Cond) ∈ NWL := List.mem_filter.mpr ⟨List.mem_of_getElem? (i := 106) (by decide +kernel), by decide +kernel⟩
theorem wf4_11 : (.fieldLink RX4 11 RX4 (TX4 0).2.1 (TX4 0).2.2.1 : Cond) ∈ TBLG := List.mem_filter.mpr ⟨List.mem_of_getElem? (i := 101) (by decide +kernel), by decide +kernel⟩
theorem wf4_17 : (.fieldLink RX4 17 RX4 (TX4 1).2.1 (TX4 1).2.2.1 : Cond) ∈ TBLG := List.mem_filter.mpr ⟨List.mem_of_getElem? (i := 104) (by decide +kernel), by decide +kernel⟩
theorem wf4_21 : (.fieldLink RX4 21 RX4 (TX4 2).2.1 (TX4 2).2.2.1 : Cond) ∈ TBLG := List.mem_filter.mpr ⟨List.mem_of_getElem? (i := 107) (by decide +kernel), by decide +kernel⟩
theorem wf4_25 : (.fieldLink RX4 25 RX4 (TX4 3).2.1 (TX4 3).2.2.1 : Cond) ∈ TBLG := List.mem_filter.mpr ⟨List.mem_of_getElem? (i := 109) (by decide +kernel), by decide +kernel⟩
theorem wf5_9 : (.fieldLink RX5 9 RX5 (TX5 0).2.1 (TX5 0).2.2.1 : Cond) ∈ TBLG := List.mem_filter.mpr ⟨List.mem_of_getElem? (i := 178) (by decide +kernel), by decide +kernel⟩
theorem wf5_15 : (.fieldLink RX5 15 RX5 (TX5 1).2.1 (TX5 1).2.2.1 : Cond) ∈ TBLG := List.mem_filter.mpr ⟨List.mem_of_getElem? (i := 179) (by decide +kernel), by decide +kernel⟩
theorem wf5_18 : (.fieldLink RX5 18 RX5 (TX5 2).2.1 (TX5 2).2.2.1 : Cond) ∈ TBLG := List.mem_filter.mpr ⟨List.mem_of_getElem? (i := 180) (by decide +kernel), by decide +kernel⟩
theorem wf5_28 : (.fieldLinkNest RX5 28 RX0 (TX0 1).2.1 (TX0 1).2.2.1 RX6 : Cond) ∈ NWL := List.mem_filter.mpr ⟨List.mem_of_getElem? (i := 198) (by decide +kernel), by decide +kernel⟩
theorem wf5_34 : (.fieldLinkNest RX5 34 RX1 (TX1 2).2.1 (TX1 2).2.2.1 RX6 : Cond) ∈ NWL := List.mem_filter.mpr ⟨List.mem_of_getElem? (i := 89) (by decide +kernel), by decide +kernel⟩
theorem wk6_50 : (.constant RX6 50 (-1000001) : Cond) ∈ TBLG := List.mem_filter.mpr ⟨List.mem_of_getElem? (i := 267) (by decide +kernel), by decide +kernel⟩
theorem wk6_59 : (.constant RX6 59 (-1000003) : Cond) ∈ TBLG := List.mem_filter.mpr ⟨List.mem_of_getElem? (i := 307) (by decide +kernel), by decide +kernel⟩
theorem wk6_99 : (.constant RX6 99 (-1000002) : Cond) ∈ TBLG := List.mem_filter.mpr ⟨List.mem_of_getElem? (i := 504) (by decide +kernel), by decide +kernel⟩
theorem wk6_161 : (.constant RX6 161 (-1000009) : Cond) ∈ TBLG := List.mem_filter.mpr ⟨List.mem_of_getElem? (i := 561) (by decide +kernel), by decide +kernel⟩
theorem wk0_109 : (.constantLong RX0 109 (-99999) : Cond) ∈ TBLG := List.mem_filter.mpr ⟨List.mem_of_getElem? (i := 471) (by decide +kernel), by decide +kernel⟩
theorem wk0_111 : (.constantLong RX0 111 (99999) : Cond) ∈ TBLG := List.mem_filter.mpr ⟨List.mem_of_getElem? (i := 472) (by decide +kernel), by decide +kernel⟩
theorem wkL_7 : (.constant RL 7 (40503) : Cond) ∈ TBLG := List.mem_filter.mpr ⟨List.mem_of_getElem? (i := 278) (by decide +kernel), by decide +kernel⟩
theorem wkL_8 : (.constant RL 8 (2147483647) : Cond) ∈ TBLG := List.mem_filter.mpr ⟨List.mem_of_getElem? (i := 282) (by decide +kernel), by decide +kernel⟩
theorem wkL_15 : (.constantLong RL 15 (99999) : Cond) ∈ TBLG := List.mem_filter.mpr ⟨List.mem_of_getElem? (i := 532) (by decide +kernel), by decide +kernel⟩
theorem wkL_17 : (.constant RL 17 (99999) : Cond) ∈ TBLG := List.mem_filter.mpr ⟨List.mem_of_getElem? (i := 533) (by decide +kernel), by decide +kernel⟩
theorem wkL_18 : (.constantLong RL 18 (-99999) : Cond) ∈ TBLG := List.mem_filter.mpr ⟨List.mem_of_getElem? (i := 534) (by decide +kernel), by decide +kernel⟩
theorem wkL_20 : (.constant RL 20 (-99999) : Cond) ∈ TBLG := List.mem_filter.mpr ⟨List.mem_of_getElem? (i := 535) (by decide +kernel), by decide +kernel⟩
theorem wkL_35 : (.constant RL 35 (100000) : Cond) ∈ TBLG := List.mem_filter.mpr ⟨List.mem_of_getElem? (i := 294) (by decide +kernel), by decide +kernel⟩
theorem wkL_40 : (.constant RL 40 (-1000009) : Cond) ∈ TBLG := List.mem_filter.mpr ⟨List.mem_of_getElem? (i := 295) (by decide +kernel), by decide +kernel⟩
theorem wkL_49 : (.constant RL 49 (100000000) : Cond) ∈ TBLG := List.mem_filter.mpr ⟨List.mem_of_getElem? (i := 290) (by decide +kernel), by decide +kernel⟩
theorem wkL_64 : (.constant RL 64 (10000000) : Cond) ∈ TBLG := List.mem_filter.mpr ⟨List.mem_of_getElem? (i := 482) (by decide +kernel), by decide +kernel⟩
theorem wkL_78 : (.constant RL 78 (-1000001) : Cond) ∈ TBLG := List.mem_filter.mpr ⟨List.mem_of_getElem? (i := 518) (by decide +kernel), by decide +kernel⟩
theorem wkL_79 : (.constant RL 79 (-1000002) : Cond) ∈ TBLG := List.mem_filter.mpr ⟨List.mem_of_getElem? (i := 519) (by decide +kernel), by decide +kernel⟩
theorem wm6_51 : (.methodLinkNest RX6 51 yX3_take RX6 : Cond) ∈ NWL := List.mem_filter.mpr ⟨List.mem_of_getElem? (i := 303) (by decide +kernel), by decide +kernel⟩
theorem wm6_60 : (.methodLinkNest RX6 60 yX3_readSheet RX6 : Cond) ∈ NWL := List.mem_filter.mpr ⟨List.mem_of_getElem? (i := 315) (by decide +kernel), by decide +kernel⟩
theorem wm6_67 : (.methodLink RX6 67 yX6_recordState : Cond) ∈ TBLG := List.mem_filter.mpr ⟨List.mem_of_getElem? (i := 374) (by decide +kernel), by decide +kernel⟩
theorem wm6_73 : (.methodLinkNest RX6 73 yX4_copyFormulas RX6 : Cond) ∈ NWL := List.mem_filter.mpr ⟨List.mem_of_getElem? (i := 412) (by decide +kernel), by decide +kernel⟩
theorem wm6_77 : (.methodLink RX6 77 yX6_workAnew : Cond) ∈ TBLG := List.mem_filter.mpr ⟨List.mem_of_getElem? (i := 413) (by decide +kernel), by decide +kernel⟩
theorem wm6_83 : (.methodLink RX6 83 yX6_isFormula : Cond) ∈ TBLG := List.mem_filter.mpr ⟨List.mem_of_getElem? (i := 498) (by decide +kernel), by decide +kernel⟩
theorem wm6_90 : (.methodLinkNest RX6 90 yX1_has RX6 : Cond) ∈ NWL := List.mem_filter.mpr ⟨List.mem_of_getElem? (i := 502) (by decide +kernel), by decide +kernel⟩
theorem wm6_95 : (.methodLinkNest RX6 95 yX1_kindOf RX6 : Cond) ∈ NWL := List.mem_filter.mpr ⟨List.mem_of_getElem? (i := 503) (by decide +kernel), by decide +kernel⟩
theorem wm6_100 : (.methodLinkNest RX6 100 yX1_exchange RX6 : Cond) ∈ NWL := List.mem_filter.mpr ⟨List.mem_of_getElem? (i := 505) (by decide +kernel), by decide +kernel⟩
theorem wm6_103 : (.methodLinkNest RX6 103 yX0_needOf RX6 : Cond) ∈ NWL := List.mem_filter.mpr ⟨List.mem_of_getElem? (i := 259) (by decide +kernel), by decide +kernel⟩
theorem wm6_106 : (.methodLink RX6 106 yX6_isCell : Cond) ∈ TBLG := List.mem_filter.mpr ⟨List.mem_of_getElem? (i := 272) (by decide +kernel), by decide +kernel⟩
theorem wm6_113 : (.methodLink RX6 113 yX6_arePlaces : Cond) ∈ TBLG := List.mem_filter.mpr ⟨List.mem_of_getElem? (i := 491) (by decide +kernel), by decide +kernel⟩
theorem wm6_122 : (.methodLinkNest RX6 122 yX4_copyState RX6 : Cond) ∈ NWL := List.mem_filter.mpr ⟨List.mem_of_getElem? (i := 382) (by decide +kernel), by decide +kernel⟩
theorem wm6_125 : (.methodLink RX6 125 yX6_cheapDefinitions : Cond) ∈ TBLG := List.mem_filter.mpr ⟨List.mem_of_getElem? (i := 247) (by decide +kernel), by decide +kernel⟩
theorem wm6_129 : (.methodLink RX6 129 yX6_nodesAsRead : Cond) ∈ TBLG := List.mem_filter.mpr ⟨List.mem_of_getElem? (i := 251) (by decide +kernel), by decide +kernel⟩
theorem wm6_132 : (.methodLink RX6 132 yX6_greatestNeed : Cond) ∈ TBLG := List.mem_filter.mpr ⟨List.mem_of_getElem? (i := 255) (by decide +kernel), by decide +kernel⟩
theorem wm6_146 : (.methodLinkNest RX6 146 yX0_valueOf RX6 : Cond) ∈ NWL := List.mem_filter.mpr ⟨List.mem_of_getElem? (i := 549) (by decide +kernel), by decide +kernel⟩
theorem wm6_149 : (.methodLinkNest RX6 149 yX0_depthOf RX6 : Cond) ∈ NWL := List.mem_filter.mpr ⟨List.mem_of_getElem? (i := 550) (by decide +kernel), by decide +kernel⟩
theorem wm6_152 : (.methodLink RX6 152 yX6_usesOf : Cond) ∈ TBLG := List.mem_filter.mpr ⟨List.mem_of_getElem? (i := 551) (by decide +kernel), by decide +kernel⟩
theorem wm6_155 : (.methodLink RX6 155 yX6_partsOf : Cond) ∈ TBLG := List.mem_filter.mpr ⟨List.mem_of_getElem? (i := 560) (by decide +kernel), by decide +kernel⟩
theorem wm6_158 : (.methodLinkNest RX6 158 yX1_contentOf RX6 : Cond) ∈ NWL := List.mem_filter.mpr ⟨List.mem_of_getElem? (i := 555) (by decide +kernel), by decide +kernel⟩
theorem wm6_162 : (.methodLinkNest RX6 162 yX0_rightOf RX6 : Cond) ∈ NWL := List.mem_filter.mpr ⟨List.mem_of_getElem? (i := 562) (by decide +kernel), by decide +kernel⟩
theorem wm6_165 : (.methodLinkNest RX6 165 yX0_sizeOf RX6 : Cond) ∈ NWL := List.mem_filter.mpr ⟨List.mem_of_getElem? (i := 563) (by decide +kernel), by decide +kernel⟩
theorem wm6_196 : (.methodLink RX6 196 yX6_refusalToTry : Cond) ∈ TBLG := List.mem_filter.mpr ⟨List.mem_of_getElem? (i := 568) (by decide +kernel), by decide +kernel⟩
theorem wm6_199 : (.methodLinkNest RX6 199 yX5_tryOrders RX6 : Cond) ∈ NWL := List.mem_filter.mpr ⟨List.mem_of_getElem? (i := 576) (by decide +kernel), by decide +kernel⟩
theorem wm6_207 : (.methodLinkNest RX6 207 yX0_pairs RX6 : Cond) ∈ NWL := List.mem_filter.mpr ⟨List.mem_of_getElem? (i := 572) (by decide +kernel), by decide +kernel⟩
theorem wm6_210 : (.methodLink RX6 210 yX6_dropOldestState : Cond) ∈ TBLG := List.mem_filter.mpr ⟨List.mem_of_getElem? (i := 378) (by decide +kernel), by decide +kernel⟩
theorem wm6_213 : (.methodLinkNest RX6 213 yX0_make RX6 : Cond) ∈ NWL := List.mem_filter.mpr ⟨List.mem_of_getElem? (i := 417) (by decide +kernel), by decide +kernel⟩
theorem wm6_216 : (.methodLinkNest RX6 216 yX0_measure RX6 : Cond) ∈ NWL := List.mem_filter.mpr ⟨List.mem_of_getElem? (i := 429) (by decide +kernel), by decide +kernel⟩
theorem wm6_220 : (.methodLink RX6 220 Lib.Math.max.name : Cond) ∈ TBLG := List.mem_filter.mpr ⟨List.mem_of_getElem? (i := 266) (by decide +kernel), by decide +kernel⟩
theorem wm0_37 : (.methodLink RX0 37 yX0_entry : Cond) ∈ TBLG := List.mem_filter.mpr ⟨List.mem_of_getElem? (i := 263) (by decide +kernel), by decide +kernel⟩
theorem wm0_41 : (.methodLink RX0 41 yX0_sizeOf : Cond) ∈ TBLG := List.mem_filter.mpr ⟨List.mem_of_getElem? (i := 451) (by decide +kernel), by decide +kernel⟩
theorem wm0_48 : (.methodLinkNest RX0 48 yX1_kindOf RX6 : Cond) ∈ NWL := List.mem_filter.mpr ⟨List.mem_of_getElem? (i := 422) (by decide +kernel), by decide +kernel⟩
theorem wm0_51 : (.methodLinkNest RX0 51 yX6_partsOf RX6 : Cond) ∈ NWL := List.mem_filter.mpr ⟨List.mem_of_getElem? (i := 436) (by decide +kernel), by decide +kernel⟩
theorem wm0_54 : (.methodLinkNest RX0 54 yX1_contentOf RX6 : Cond) ∈ NWL := List.mem_filter.mpr ⟨List.mem_of_getElem? (i := 421) (by decide +kernel), by decide +kernel⟩
theorem wm0_61 : (.methodLinkNest RX0 61 yX1_addAll RX6 : Cond) ∈ NWL := List.mem_filter.mpr ⟨List.mem_of_getElem? (i := 423) (by decide +kernel), by decide +kernel⟩
theorem wm0_65 : (.methodLinkNest RX0 65 yX1_add RX6 : Cond) ∈ NWL := List.mem_filter.mpr ⟨List.mem_of_getElem? (i := 424) (by decide +kernel), by decide +kernel⟩
theorem wm0_69 : (.methodLinkNest RX0 69 yX1_hasKind RX6 : Cond) ∈ NWL := List.mem_filter.mpr ⟨List.mem_of_getElem? (i := 425) (by decide +kernel), by decide +kernel⟩
theorem wm0_73 : (.methodLink RX0 73 Lib.Math.min.name : Cond) ∈ TBLG := List.mem_filter.mpr ⟨List.mem_of_getElem? (i := 433) (by decide +kernel), by decide +kernel⟩
theorem wm0_79 : (.methodLink RX0 79 yX0_put : Cond) ∈ TBLG := List.mem_filter.mpr ⟨List.mem_of_getElem? (i := 439) (by decide +kernel), by decide +kernel⟩
theorem wm0_83 : (.methodLink RX0 83 yX0_leafValue : Cond) ∈ TBLG := List.mem_filter.mpr ⟨List.mem_of_getElem? (i := 443) (by decide +kernel), by decide +kernel⟩
theorem wm0_87 : (.methodLink RX0 87 yX0_needOf : Cond) ∈ TBLG := List.mem_filter.mpr ⟨List.mem_of_getElem? (i := 455) (by decide +kernel), by decide +kernel⟩
theorem wm0_90 : (.methodLink RX0 90 yX0_depthOf : Cond) ∈ TBLG := List.mem_filter.mpr ⟨List.mem_of_getElem? (i := 456) (by decide +kernel), by decide +kernel⟩
theorem wm0_93 : (.methodLink RX0 93 yX0_valueOf : Cond) ∈ TBLG := List.mem_filter.mpr ⟨List.mem_of_getElem? (i := 447) (by decide +kernel), by decide +kernel⟩
theorem wm0_96 : (.methodLink RX0 96 yX0_rightOf : Cond) ∈ TBLG := List.mem_filter.mpr ⟨List.mem_of_getElem? (i := 460) (by decide +kernel), by decide +kernel⟩
theorem wm0_99 : (.methodLink RX0 99 Lib.Math.max.name : Cond) ∈ TBLG := List.mem_filter.mpr ⟨List.mem_of_getElem? (i := 464) (by decide +kernel), by decide +kernel⟩
theorem wm0_102 : (.methodLink RX0 102 yX0_needOfPair : Cond) ∈ TBLG := List.mem_filter.mpr ⟨List.mem_of_getElem? (i := 465) (by decide +kernel), by decide +kernel⟩
theorem wm0_105 : (.methodLink RX0 105 yX0_operate : Cond) ∈ TBLG := List.mem_filter.mpr ⟨List.mem_of_getElem? (i := 468) (by decide +kernel), by decide +kernel⟩
theorem wm0_113 : (.methodLink RX0 113 Lib.MathLoose.min_long.x : Cond) ∈ TBLG := List.mem_filter.mpr ⟨List.mem_of_getElem? (i := 473) (by decide +kernel), by decide +kernel⟩
theorem wm0_116 : (.methodLink RX0 116 Lib.MathLoose.max_long.x : Cond) ∈ TBLG := List.mem_filter.mpr ⟨List.mem_of_getElem? (i := 476) (by decide +kernel), by decide +kernel⟩
theorem wm1_15 : (.methodLink RX1 15 Lib.Math.max.name : Cond) ∈ TBLG := List.mem_filter.mpr ⟨List.mem_of_getElem? (i := 83) (by decide +kernel), by decide +kernel⟩
theorem wm1_28 : (.methodLink RX1 28 yX1_has : Cond) ∈ TBLG := List.mem_filter.mpr ⟨List.mem_of_getElem? (i := 402) (by decide +kernel), by decide +kernel⟩
theorem wm1_32 : (.methodLink RX1 32 yX1_kindOf : Cond) ∈ TBLG := List.mem_filter.mpr ⟨List.mem_of_getElem? (i := 398) (by decide +kernel), by decide +kernel⟩
theorem wm1_36 : (.methodLink RX1 36 yX1_isFull : Cond) ∈ TBLG := List.mem_filter.mpr ⟨List.mem_of_getElem? (i := 351) (by decide +kernel), by decide +kernel⟩
theorem wm1_40 : (.methodLink RX1 40 arraycopyName : Cond) ∈ TBLG := List.mem_filter.mpr ⟨List.mem_of_getElem? (i := 371) (by decide +kernel), by decide +kernel⟩
theorem wm1_46 : (.methodLink RX1 46 yX1_contentOf : Cond) ∈ TBLG := List.mem_filter.mpr ⟨List.mem_of_getElem? (i := 406) (by decide +kernel), by decide +kernel⟩
theorem wm1_49 : (.methodLink RX1 49 yX1_add : Cond) ∈ TBLG := List.mem_filter.mpr ⟨List.mem_of_getElem? (i := 410) (by decide +kernel), by decide +kernel⟩
theorem wm1_53 : (.methodLink RX1 53 yX1_addAll : Cond) ∈ TBLG := List.mem_filter.mpr ⟨List.mem_of_getElem? (i := 394) (by decide +kernel), by decide +kernel⟩
theorem wm1_57 : (.methodLinkNest RX1 57 yX6_partsOf RX6 : Cond) ∈ NWL := List.mem_filter.mpr ⟨List.mem_of_getElem? (i := 513) (by decide +kernel), by decide +kernel⟩
theorem wm1_60 : (.methodLink RX1 60 yX1_behind : Cond) ∈ TBLG := List.mem_filter.mpr ⟨List.mem_of_getElem? (i := 509) (by decide +kernel), by decide +kernel⟩
theorem wm1_63 : (.methodLink RX1 63 yX1_turnAround : Cond) ∈ TBLG := List.mem_filter.mpr ⟨List.mem_of_getElem? (i := 514) (by decide +kernel), by decide +kernel⟩
theorem wm3_29 : (.methodLink RX3 29 yX3_sign : Cond) ∈ TBLG := List.mem_filter.mpr ⟨List.mem_of_getElem? (i := 323) (by decide +kernel), by decide +kernel⟩
theorem wm3_42 : (.methodLink RX3 42 yX3_pass : Cond) ∈ TBLG := List.mem_filter.mpr ⟨List.mem_of_getElem? (i := 319) (by decide +kernel), by decide +kernel⟩
theorem wm3_46 : (.methodLink RX3 46 yX3_readSum : Cond) ∈ TBLG := List.mem_filter.mpr ⟨List.mem_of_getElem? (i := 327) (by decide +kernel), by decide +kernel⟩
theorem wm3_53 : (.methodLink RX3 53 yX3_readProduct : Cond) ∈ TBLG := List.mem_filter.mpr ⟨List.mem_of_getElem? (i := 331) (by decide +kernel), by decide +kernel⟩
theorem wm3_56 : (.methodLink RX3 56 yX3_readOperation : Cond) ∈ TBLG := List.mem_filter.mpr ⟨List.mem_of_getElem? (i := 363) (by decide +kernel), by decide +kernel⟩
theorem wm3_59 : (.methodLink RX3 59 yX3_readFactor : Cond) ∈ TBLG := List.mem_filter.mpr ⟨List.mem_of_getElem? (i := 335) (by decide +kernel), by decide +kernel⟩
theorem wm3_62 : (.methodLinkNest RX3 62 yX1_insert RX6 : Cond) ∈ NWL := List.mem_filter.mpr ⟨List.mem_of_getElem? (i := 367) (by decide +kernel), by decide +kernel⟩
theorem wm3_66 : (.methodLink RX3 66 yX3_readNested : Cond) ∈ TBLG := List.mem_filter.mpr ⟨List.mem_of_getElem? (i := 339) (by decide +kernel), by decide +kernel⟩
theorem wm3_69 : (.methodLink RX3 69 yX3_readLeaf : Cond) ∈ TBLG := List.mem_filter.mpr ⟨List.mem_of_getElem? (i := 352) (by decide +kernel), by decide +kernel⟩
theorem wm3_73 : (.methodLinkNest RX3 73 yX1_isFull RX6 : Cond) ∈ NWL := List.mem_filter.mpr ⟨List.mem_of_getElem? (i := 343) (by decide +kernel), by decide +kernel⟩
theorem wm3_77 : (.methodLinkNest RX3 77 yX1_add RX6 : Cond) ∈ NWL := List.mem_filter.mpr ⟨List.mem_of_getElem? (i := 347) (by decide +kernel), by decide +kernel⟩
theorem wm3_81 : (.methodLink RX3 81 yX3_isDigit : Cond) ∈ TBLG := List.mem_filter.mpr ⟨List.mem_of_getElem? (i := 356) (by decide +kernel), by decide +kernel⟩
theorem wm3_84 : (.methodLink RX3 84 yX3_readNumber : Cond) ∈ TBLG := List.mem_filter.mpr ⟨List.mem_of_getElem? (i := 359) (by decide +kernel), by decide +kernel⟩
theorem wm4_31 : (.methodLinkNest RX4 31 yX1_copy RX6 : Cond) ∈ NWL := List.mem_filter.mpr ⟨List.mem_of_getElem? (i := 390) (by decide +kernel), by decide +kernel⟩
theorem wm4_35 : (.methodLink RX4 35 yX4_copyFormulas : Cond) ∈ TBLG := List.mem_filter.mpr ⟨List.mem_of_getElem? (i := 386) (by decide +kernel), by decide +kernel⟩
theorem wm4_39 : (.methodLink RX4 39 arraycopyName : Cond) ∈ TBLG := List.mem_filter.mpr ⟨List.mem_of_getElem? (i := 411) (by decide +kernel), by decide +kernel⟩
theorem wm5_22 : (.methodLink RX5 22 arraycopyName : Cond) ∈ TBLG := List.mem_filter.mpr ⟨List.mem_of_getElem? (i := 580) (by decide +kernel), by decide +kernel⟩
theorem wm5_39 : (.methodLink RX5 39 Lib.Math.min.name : Cond) ∈ TBLG := List.mem_filter.mpr ⟨List.mem_of_getElem? (i := 581) (by decide +kernel), by decide +kernel⟩
theorem wm5_45 : (.methodLink RX5 45 yX5_waysFor : Cond) ∈ TBLG := List.mem_filter.mpr ⟨List.mem_of_getElem? (i := 582) (by decide +kernel), by decide +kernel⟩
theorem wm5_49 : (.methodLinkNest RX5 49 yX1_kindOf RX6 : Cond) ∈ NWL := List.mem_filter.mpr ⟨List.mem_of_getElem? (i := 586) (by decide +kernel), by decide +kernel⟩
theorem wm5_53 : (.methodLinkNest RX5 53 yX6_partsOf RX6 : Cond) ∈ NWL := List.mem_filter.mpr ⟨List.mem_of_getElem? (i := 587) (by decide +kernel), by decide +kernel⟩
theorem wm5_56 : (.methodLinkNest RX5 56 yX0_entry RX6 : Cond) ∈ NWL := List.mem_filter.mpr ⟨List.mem_of_getElem? (i := 588) (by decide +kernel), by decide +kernel⟩
theorem wm5_60 : (.methodLinkNest RX5 60 yX0_rightOf RX6 : Cond) ∈ NWL := List.mem_filter.mpr ⟨List.mem_of_getElem? (i := 589) (by decide +kernel), by decide +kernel⟩
theorem wmL_9 : (.methodLink RL 9 yL_isCheap : Cond) ∈ TBLG := List.mem_filter.mpr ⟨List.mem_of_getElem? (i := 526) (by decide +kernel), by decide +kernel⟩
theorem wmL_21 : (.methodLink RL 21 yL_expand : Cond) ∈ TBLG := List.mem_filter.mpr ⟨List.mem_of_getElem? (i := 523) (by decide +kernel), by decide +kernel⟩
theorem wmL_25 : (.methodLink RL 25 yL_tell : Cond) ∈ TBLG := List.mem_filter.mpr ⟨List.mem_of_getElem? (i := 529) (by decide +kernel), by decide +kernel⟩
theorem wmL_29 : (.methodLink RL 29 yX6_append : Cond) ∈ TBLG := List.mem_filter.mpr ⟨List.mem_of_getElem? (i := 299) (by decide +kernel), by decide +kernel⟩
theorem wmL_36 : (.methodLink RL 36 yL_low : Cond) ∈ TBLG := List.mem_filter.mpr ⟨List.mem_of_getElem? (i := 279) (by decide +kernel), by decide +kernel⟩
theorem wmL_41 : (.methodLink RL 41 yL_put : Cond) ∈ TBLG := List.mem_filter.mpr ⟨List.mem_of_getElem? (i := 296) (by decide +kernel), by decide +kernel⟩
theorem wmL_45 : (.methodLink RL 45 yX6_clearText : Cond) ∈ TBLG := List.mem_filter.mpr ⟨List.mem_of_getElem? (i := 286) (by decide +kernel), by decide +kernel⟩
theorem wmL_50 : (.methodLink RL 50 yL_grow : Cond) ∈ TBLG := List.mem_filter.mpr ⟨List.mem_of_getElem? (i := 291) (by decide +kernel), by decide +kernel⟩
theorem wmL_54 : (.methodLink RL 54 yL_types : Cond) ∈ TBLG := List.mem_filter.mpr ⟨List.mem_of_getElem? (i := 308) (by decide +kernel), by decide +kernel⟩
theorem wmL_58 : (.methodLink RL 58 yX6_count : Cond) ∈ TBLG := List.mem_filter.mpr ⟨List.mem_of_getElem? (i := 243) (by decide +kernel), by decide +kernel⟩
theorem wmL_61 : (.methodLink RL 61 yX6_read : Cond) ∈ TBLG := List.mem_filter.mpr ⟨List.mem_of_getElem? (i := 311) (by decide +kernel), by decide +kernel⟩
theorem wmL_65 : (.methodLink RL 65 yL_reads : Cond) ∈ TBLG := List.mem_filter.mpr ⟨List.mem_of_getElem? (i := 283) (by decide +kernel), by decide +kernel⟩
theorem wmL_69 : (.methodLink RL 69 yX6_setCell : Cond) ∈ TBLG := List.mem_filter.mpr ⟨List.mem_of_getElem? (i := 483) (by decide +kernel), by decide +kernel⟩
theorem wmL_72 : (.methodLink RL 72 yX6_setPlaces : Cond) ∈ TBLG := List.mem_filter.mpr ⟨List.mem_of_getElem? (i := 487) (by decide +kernel), by decide +kernel⟩
theorem wmL_75 : (.methodLink RL 75 yX6_turn : Cond) ∈ TBLG := List.mem_filter.mpr ⟨List.mem_of_getElem? (i := 494) (by decide +kernel), by decide +kernel⟩
theorem wmL_80 : (.methodLink RL 80 yL_part : Cond) ∈ TBLG := List.mem_filter.mpr ⟨List.mem_of_getElem? (i := 520) (by decide +kernel), by decide +kernel⟩
theorem wmL_84 : (.methodLink RL 84 yX6_formula : Cond) ∈ TBLG := List.mem_filter.mpr ⟨List.mem_of_getElem? (i := 545) (by decide +kernel), by decide +kernel⟩
theorem wmL_87 : (.methodLink RL 87 yX6_node : Cond) ∈ TBLG := List.mem_filter.mpr ⟨List.mem_of_getElem? (i := 556) (by decide +kernel), by decide +kernel⟩
theorem wmL_91 : (.methodLink RL 91 yX6_proved : Cond) ∈ TBLG := List.mem_filter.mpr ⟨List.mem_of_getElem? (i := 564) (by decide +kernel), by decide +kernel⟩
theorem wmL_94 : (.methodLink RL 94 yL_worths : Cond) ∈ TBLG := List.mem_filter.mpr ⟨List.mem_of_getElem? (i := 539) (by decide +kernel), by decide +kernel⟩
theorem wmL_98 : (.methodLink RL 98 yL_isFormula : Cond) ∈ TBLG := List.mem_filter.mpr ⟨List.mem_of_getElem? (i := 542) (by decide +kernel), by decide +kernel⟩
theorem wmL_101 : (.methodLink RL 101 yX6_cell : Cond) ∈ TBLG := List.mem_filter.mpr ⟨List.mem_of_getElem? (i := 268) (by decide +kernel), by decide +kernel⟩
theorem wmL_104 : (.methodLink RL 104 yX6_init : Cond) ∈ TBLG := List.mem_filter.mpr ⟨List.mem_of_getElem? (i := 58) (by decide +kernel), by decide +kernel⟩
theorem wmL_105 : (.methodLink RL 105 yL_isSo : Cond) ∈ TBLG := List.mem_filter.mpr ⟨List.mem_of_getElem? (i := 536) (by decide +kernel), by decide +kernel⟩
theorem wmL_109 : (.methodLink RL 109 yL_cell : Cond) ∈ TBLG := List.mem_filter.mpr ⟨List.mem_of_getElem? (i := 275) (by decide +kernel), by decide +kernel⟩
theorem wmL_112 : (.methodLink RL 112 yL_acts : Cond) ∈ TBLG := List.mem_filter.mpr ⟨List.mem_of_getElem? (i := 479) (by decide +kernel), by decide +kernel⟩
theorem wiX6_init : (.instanceMethod yX6_init : Cond) ∈ TBLG := List.mem_filter.mpr ⟨List.mem_of_getElem? (i := 59) (by decide +kernel), by decide +kernel⟩
theorem wcX6_init : (.code yX6_init cX6_init 2 none : Cond) ∈ TBLG := List.mem_filter.mpr ⟨List.mem_of_getElem? (i := 60) (by decide +kernel), by decide +kernel⟩
theorem wiX6_append : (.instanceMethod yX6_append : Cond) ∈ TBLG := List.mem_filter.mpr ⟨List.mem_of_getElem? (i := 300) (by decide +kernel), by decide +kernel⟩
theorem wvX6_append : (.selects RX6 yX6_append yX6_append : Cond) ∈ TBLG := List.mem_filter.mpr ⟨List.mem_of_getElem? (i := 301) (by decide +kernel), by decide +kernel⟩
theorem wcX6_append : (.code yX6_append cX6_append 2 (some .int) : Cond) ∈ TBLG := List.mem_filter.mpr ⟨List.mem_of_getElem? (i := 302) (by decide +kernel), by decide +kernel⟩
theorem wsX6_arePlaces : (.static yX6_arePlaces : Cond) ∈ TBLG := List.mem_filter.mpr ⟨List.mem_of_getElem? (i := 492) (by decide +kernel), by decide +kernel⟩
theorem wcX6_arePlaces : (.code yX6_arePlaces cX6_arePlaces 1 (some .boolean) : Cond) ∈ TBLG := List.mem_filter.mpr ⟨List.mem_of_getElem? (i := 493) (by decide +kernel), by decide +kernel⟩
theorem wiX6_cell : (.instanceMethod yX6_cell : Cond) ∈ TBLG := List.mem_filter.mpr ⟨List.mem_of_getElem? (i := 269) (by decide +kernel), by decide +kernel⟩
theorem wvX6_cell : (.selects RX6 yX6_cell yX6_cell : Cond) ∈ TBLG := List.mem_filter.mpr ⟨List.mem_of_getElem? (i := 270) (by decide +kernel), by decide +kernel⟩
theorem wcX6_cell : (.code yX6_cell cX6_cell 2 (some .int) : Cond) ∈ TBLG := List.mem_filter.mpr ⟨List.mem_of_getElem? (i := 271) (by decide +kernel), by decide +kernel⟩
theorem wiX6_cheapDefinitions : (.instanceMethod yX6_cheapDefinitions : Cond) ∈ TBLG := List.mem_filter.mpr ⟨List.mem_of_getElem? (i := 249) (by decide +kernel), by decide +kernel⟩
theorem wvX6_cheapDefinitions : (.selects RX6 yX6_cheapDefinitions yX6_cheapDefinitions : Cond) ∈ TBLG := List.mem_filter.mpr ⟨List.mem_of_getElem? (i := 0) (by decide +kernel), by decide +kernel⟩
theorem wcX6_cheapDefinitions : (.code yX6_cheapDefinitions cX6_cheapDefinitions 3 (some .int) : Cond) ∈ TBLG := List.mem_filter.mpr ⟨List.mem_of_getElem? (i := 250) (by decide +kernel), by decide +kernel⟩
theorem wiX6_clearText : (.instanceMethod yX6_clearText : Cond) ∈ TBLG := List.mem_filter.mpr ⟨List.mem_of_getElem? (i := 287) (by decide +kernel), by decide +kernel⟩
theorem wvX6_clearText : (.selects RX6 yX6_clearText yX6_clearText : Cond) ∈ TBLG := List.mem_filter.mpr ⟨List.mem_of_getElem? (i := 288) (by decide +kernel), by decide +kernel⟩
theorem wcX6_clearText : (.code yX6_clearText cX6_clearText 2 (some .int) : Cond) ∈ TBLG := List.mem_filter.mpr ⟨List.mem_of_getElem? (i := 289) (by decide +kernel), by decide +kernel⟩
theorem wiX6_count : (.instanceMethod yX6_count : Cond) ∈ TBLG := List.mem_filter.mpr ⟨List.mem_of_getElem? (i := 244) (by decide +kernel), by decide +kernel⟩
theorem wvX6_count : (.selects RX6 yX6_count yX6_count : Cond) ∈ TBLG := List.mem_filter.mpr ⟨List.mem_of_getElem? (i := 245) (by decide +kernel), by decide +kernel⟩
theorem wcX6_count : (.code yX6_count cX6_count 2 (some .int) : Cond) ∈ TBLG := List.mem_filter.mpr ⟨List.mem_of_getElem? (i := 246) (by decide +kernel), by decide +kernel⟩
theorem wiX6_dropOldestState : (.instanceMethod yX6_dropOldestState : Cond) ∈ TBLG := List.mem_filter.mpr ⟨List.mem_of_getElem? (i := 380) (by decide +kernel), by decide +kernel⟩
theorem wvX6_dropOldestState : (.selects RX6 yX6_dropOldestState yX6_dropOldestState : Cond) ∈ TBLG := List.mem_filter.mpr ⟨List.mem_of_getElem? (i := 19) (by decide +kernel), by decide +kernel⟩
theorem wcX6_dropOldestState : (.code yX6_dropOldestState cX6_dropOldestState 3 none : Cond) ∈ TBLG := List.mem_filter.mpr ⟨List.mem_of_getElem? (i := 381) (by decide +kernel), by decide +kernel⟩
theorem wiX6_formula : (.instanceMethod yX6_formula : Cond) ∈ TBLG := List.mem_filter.mpr ⟨List.mem_of_getElem? (i := 546) (by decide +kernel), by decide +kernel⟩
theorem wvX6_formula : (.selects RX6 yX6_formula yX6_formula : Cond) ∈ TBLG := List.mem_filter.mpr ⟨List.mem_of_getElem? (i := 547) (by decide +kernel), by decide +kernel⟩
theorem wcX6_formula : (.code yX6_formula cX6_formula 4 (some .int) : Cond) ∈ TBLG := List.mem_filter.mpr ⟨List.mem_of_getElem? (i := 548) (by decide +kernel), by decide +kernel⟩
theorem wiX6_greatestNeed : (.instanceMethod yX6_greatestNeed : Cond) ∈ TBLG := List.mem_filter.mpr ⟨List.mem_of_getElem? (i := 257) (by decide +kernel), by decide +kernel⟩
theorem wvX6_greatestNeed : (.selects RX6 yX6_greatestNeed yX6_greatestNeed : Cond) ∈ TBLG := List.mem_filter.mpr ⟨List.mem_of_getElem? (i := 2) (by decide +kernel), by decide +kernel⟩
theorem wcX6_greatestNeed : (.code yX6_greatestNeed cX6_greatestNeed 3 (some .int) : Cond) ∈ TBLG := List.mem_filter.mpr ⟨List.mem_of_getElem? (i := 258) (by decide +kernel), by decide +kernel⟩
theorem wsX6_isCell : (.static yX6_isCell : Cond) ∈ TBLG := List.mem_filter.mpr ⟨List.mem_of_getElem? (i := 273) (by decide +kernel), by decide +kernel⟩
theorem wcX6_isCell : (.code yX6_isCell cX6_isCell 1 (some .boolean) : Cond) ∈ TBLG := List.mem_filter.mpr ⟨List.mem_of_getElem? (i := 274) (by decide +kernel), by decide +kernel⟩
theorem wiX6_isFormula : (.instanceMethod yX6_isFormula : Cond) ∈ TBLG := List.mem_filter.mpr ⟨List.mem_of_getElem? (i := 500) (by decide +kernel), by decide +kernel⟩
theorem wvX6_isFormula : (.selects RX6 yX6_isFormula yX6_isFormula : Cond) ∈ TBLG := List.mem_filter.mpr ⟨List.mem_of_getElem? (i := 37) (by decide +kernel), by decide +kernel⟩
theorem wcX6_isFormula : (.code yX6_isFormula cX6_isFormula 2 (some .boolean) : Cond) ∈ TBLG := List.mem_filter.mpr ⟨List.mem_of_getElem? (i := 501) (by decide +kernel), by decide +kernel⟩
theorem wiX6_node : (.instanceMethod yX6_node : Cond) ∈ TBLG := List.mem_filter.mpr ⟨List.mem_of_getElem? (i := 557) (by decide +kernel), by decide +kernel⟩
theorem wvX6_node : (.selects RX6 yX6_node yX6_node : Cond) ∈ TBLG := List.mem_filter.mpr ⟨List.mem_of_getElem? (i := 558) (by decide +kernel), by decide +kernel⟩
theorem wcX6_node : (.code yX6_node cX6_node 6 (some .int) : Cond) ∈ TBLG := List.mem_filter.mpr ⟨List.mem_of_getElem? (i := 559) (by decide +kernel), by decide +kernel⟩
theorem wiX6_nodesAsRead : (.instanceMethod yX6_nodesAsRead : Cond) ∈ TBLG := List.mem_filter.mpr ⟨List.mem_of_getElem? (i := 253) (by decide +kernel), by decide +kernel⟩
theorem wvX6_nodesAsRead : (.selects RX6 yX6_nodesAsRead yX6_nodesAsRead : Cond) ∈ TBLG := List.mem_filter.mpr ⟨List.mem_of_getElem? (i := 1) (by decide +kernel), by decide +kernel⟩
theorem wcX6_nodesAsRead : (.code yX6_nodesAsRead cX6_nodesAsRead 3 (some .int) : Cond) ∈ TBLG := List.mem_filter.mpr ⟨List.mem_of_getElem? (i := 254) (by decide +kernel), by decide +kernel⟩
theorem wsX6_partsOf : (.static yX6_partsOf : Cond) ∈ TBLG := List.mem_filter.mpr ⟨List.mem_of_getElem? (i := 437) (by decide +kernel), by decide +kernel⟩
theorem wcX6_partsOf : (.code yX6_partsOf cX6_partsOf 1 (some .int) : Cond) ∈ TBLG := List.mem_filter.mpr ⟨List.mem_of_getElem? (i := 438) (by decide +kernel), by decide +kernel⟩
theorem wiX6_proved : (.instanceMethod yX6_proved : Cond) ∈ TBLG := List.mem_filter.mpr ⟨List.mem_of_getElem? (i := 565) (by decide +kernel), by decide +kernel⟩
theorem wvX6_proved : (.selects RX6 yX6_proved yX6_proved : Cond) ∈ TBLG := List.mem_filter.mpr ⟨List.mem_of_getElem? (i := 566) (by decide +kernel), by decide +kernel⟩
theorem wcX6_proved : (.code yX6_proved cX6_proved 3 (some .int) : Cond) ∈ TBLG := List.mem_filter.mpr ⟨List.mem_of_getElem? (i := 567) (by decide +kernel), by decide +kernel⟩
theorem wiX6_read : (.instanceMethod yX6_read : Cond) ∈ TBLG := List.mem_filter.mpr ⟨List.mem_of_getElem? (i := 312) (by decide +kernel), by decide +kernel⟩
theorem wvX6_read : (.selects RX6 yX6_read yX6_read : Cond) ∈ TBLG := List.mem_filter.mpr ⟨List.mem_of_getElem? (i := 313) (by decide +kernel), by decide +kernel⟩
theorem wcX6_read : (.code yX6_read cX6_read 1 (some .int) : Cond) ∈ TBLG := List.mem_filter.mpr ⟨List.mem_of_getElem? (i := 314) (by decide +kernel), by decide +kernel⟩
theorem wiX6_recordState : (.instanceMethod yX6_recordState : Cond) ∈ TBLG := List.mem_filter.mpr ⟨List.mem_of_getElem? (i := 376) (by decide +kernel), by decide +kernel⟩
theorem wvX6_recordState : (.selects RX6 yX6_recordState yX6_recordState : Cond) ∈ TBLG := List.mem_filter.mpr ⟨List.mem_of_getElem? (i := 18) (by decide +kernel), by decide +kernel⟩
theorem wcX6_recordState : (.code yX6_recordState cX6_recordState 1 none : Cond) ∈ TBLG := List.mem_filter.mpr ⟨List.mem_of_getElem? (i := 377) (by decide +kernel), by decide +kernel⟩
theorem wiX6_refusalToTry : (.instanceMethod yX6_refusalToTry : Cond) ∈ TBLG := List.mem_filter.mpr ⟨List.mem_of_getElem? (i := 570) (by decide +kernel), by decide +kernel⟩
theorem wvX6_refusalToTry : (.selects RX6 yX6_refusalToTry yX6_refusalToTry : Cond) ∈ TBLG := List.mem_filter.mpr ⟨List.mem_of_getElem? (i := 42) (by decide +kernel), by decide +kernel⟩
theorem wcX6_refusalToTry : (.code yX6_refusalToTry cX6_refusalToTry 2 (some .int) : Cond) ∈ TBLG := List.mem_filter.mpr ⟨List.mem_of_getElem? (i := 571) (by decide +kernel), by decide +kernel⟩
theorem wiX6_setCell : (.instanceMethod yX6_setCell : Cond) ∈ TBLG := List.mem_filter.mpr ⟨List.mem_of_getElem? (i := 484) (by decide +kernel), by decide +kernel⟩
theorem wvX6_setCell : (.selects RX6 yX6_setCell yX6_setCell : Cond) ∈ TBLG := List.mem_filter.mpr ⟨List.mem_of_getElem? (i := 485) (by decide +kernel), by decide +kernel⟩
theorem wcX6_setCell : (.code yX6_setCell cX6_setCell 4 (some .int) : Cond) ∈ TBLG := List.mem_filter.mpr ⟨List.mem_of_getElem? (i := 486) (by decide +kernel), by decide +kernel⟩
theorem wiX6_setPlaces : (.instanceMethod yX6_setPlaces : Cond) ∈ TBLG := List.mem_filter.mpr ⟨List.mem_of_getElem? (i := 488) (by decide +kernel), by decide +kernel⟩
theorem wvX6_setPlaces : (.selects RX6 yX6_setPlaces yX6_setPlaces : Cond) ∈ TBLG := List.mem_filter.mpr ⟨List.mem_of_getElem? (i := 489) (by decide +kernel), by decide +kernel⟩
theorem wcX6_setPlaces : (.code yX6_setPlaces cX6_setPlaces 3 (some .int) : Cond) ∈ TBLG := List.mem_filter.mpr ⟨List.mem_of_getElem? (i := 490) (by decide +kernel), by decide +kernel⟩
theorem wiX6_turn : (.instanceMethod yX6_turn : Cond) ∈ TBLG := List.mem_filter.mpr ⟨List.mem_of_getElem? (i := 495) (by decide +kernel), by decide +kernel⟩
theorem wvX6_turn : (.selects RX6 yX6_turn yX6_turn : Cond) ∈ TBLG := List.mem_filter.mpr ⟨List.mem_of_getElem? (i := 496) (by decide +kernel), by decide +kernel⟩
theorem wcX6_turn : (.code yX6_turn cX6_turn 4 (some .int) : Cond) ∈ TBLG := List.mem_filter.mpr ⟨List.mem_of_getElem? (i := 497) (by decide +kernel), by decide +kernel⟩
theorem wiX6_usesOf : (.instanceMethod yX6_usesOf : Cond) ∈ TBLG := List.mem_filter.mpr ⟨List.mem_of_getElem? (i := 553) (by decide +kernel), by decide +kernel⟩
theorem wvX6_usesOf : (.selects RX6 yX6_usesOf yX6_usesOf : Cond) ∈ TBLG := List.mem_filter.mpr ⟨List.mem_of_getElem? (i := 41) (by decide +kernel), by decide +kernel⟩
theorem wcX6_usesOf : (.code yX6_usesOf cX6_usesOf 7 (some .int) : Cond) ∈ TBLG := List.mem_filter.mpr ⟨List.mem_of_getElem? (i := 554) (by decide +kernel), by decide +kernel⟩
theorem wiX6_workAnew : (.instanceMethod yX6_workAnew : Cond) ∈ TBLG := List.mem_filter.mpr ⟨List.mem_of_getElem? (i := 415) (by decide +kernel), by decide +kernel⟩
theorem wvX6_workAnew : (.selects RX6 yX6_workAnew yX6_workAnew : Cond) ∈ TBLG := List.mem_filter.mpr ⟨List.mem_of_getElem? (i := 27) (by decide +kernel), by decide +kernel⟩
theorem wcX6_workAnew : (.code yX6_workAnew cX6_workAnew 3 none : Cond) ∈ TBLG := List.mem_filter.mpr ⟨List.mem_of_getElem? (i := 416) (by decide +kernel), by decide +kernel⟩
theorem wiX0_depthOf : (.instanceMethod yX0_depthOf : Cond) ∈ TBLG := List.mem_filter.mpr ⟨List.mem_of_getElem? (i := 458) (by decide +kernel), by decide +kernel⟩
theorem wvX0_depthOf : (.selects RX0 yX0_depthOf yX0_depthOf : Cond) ∈ TBLG := List.mem_filter.mpr ⟨List.mem_of_getElem? (i := 35) (by decide +kernel), by decide +kernel⟩
theorem wcX0_depthOf : (.code yX0_depthOf cX0_depthOf 2 (some .int) : Cond) ∈ TBLG := List.mem_filter.mpr ⟨List.mem_of_getElem? (i := 459) (by decide +kernel), by decide +kernel⟩
theorem wsX0_entry : (.static yX0_entry : Cond) ∈ TBLG := List.mem_filter.mpr ⟨List.mem_of_getElem? (i := 264) (by decide +kernel), by decide +kernel⟩
theorem wcX0_entry : (.code yX0_entry cX0_entry 2 (some .int) : Cond) ∈ TBLG := List.mem_filter.mpr ⟨List.mem_of_getElem? (i := 265) (by decide +kernel), by decide +kernel⟩
theorem wiX0_leafValue : (.instanceMethod yX0_leafValue : Cond) ∈ TBLG := List.mem_filter.mpr ⟨List.mem_of_getElem? (i := 445) (by decide +kernel), by decide +kernel⟩
theorem wvX0_leafValue : (.selects RX0 yX0_leafValue yX0_leafValue : Cond) ∈ TBLG := List.mem_filter.mpr ⟨List.mem_of_getElem? (i := 32) (by decide +kernel), by decide +kernel⟩
theorem wcX0_leafValue : (.code yX0_leafValue cX0_leafValue 6 (some .int) : Cond) ∈ TBLG := List.mem_filter.mpr ⟨List.mem_of_getElem? (i := 446) (by decide +kernel), by decide +kernel⟩
theorem wiX0_make : (.instanceMethod yX0_make : Cond) ∈ TBLG := List.mem_filter.mpr ⟨List.mem_of_getElem? (i := 419) (by decide +kernel), by decide +kernel⟩
theorem wvX0_make : (.selects RX0 yX0_make yX0_make : Cond) ∈ TBLG := List.mem_filter.mpr ⟨List.mem_of_getElem? (i := 28) (by decide +kernel), by decide +kernel⟩
theorem wcX0_make : (.code yX0_make cX0_make 7 none : Cond) ∈ TBLG := List.mem_filter.mpr ⟨List.mem_of_getElem? (i := 420) (by decide +kernel), by decide +kernel⟩
theorem wiX0_measure : (.instanceMethod yX0_measure : Cond) ∈ TBLG := List.mem_filter.mpr ⟨List.mem_of_getElem? (i := 431) (by decide +kernel), by decide +kernel⟩
theorem wvX0_measure : (.selects RX0 yX0_measure yX0_measure : Cond) ∈ TBLG := List.mem_filter.mpr ⟨List.mem_of_getElem? (i := 30) (by decide +kernel), by decide +kernel⟩
theorem wcX0_measure : (.code yX0_measure cX0_measure 8 none : Cond) ∈ TBLG := List.mem_filter.mpr ⟨List.mem_of_getElem? (i := 432) (by decide +kernel), by decide +kernel⟩
theorem wiX0_needOf : (.instanceMethod yX0_needOf : Cond) ∈ TBLG := List.mem_filter.mpr ⟨List.mem_of_getElem? (i := 261) (by decide +kernel), by decide +kernel⟩
theorem wvX0_needOf : (.selects RX0 yX0_needOf yX0_needOf : Cond) ∈ TBLG := List.mem_filter.mpr ⟨List.mem_of_getElem? (i := 3) (by decide +kernel), by decide +kernel⟩
theorem wcX0_needOf : (.code yX0_needOf cX0_needOf 2 (some .int) : Cond) ∈ TBLG := List.mem_filter.mpr ⟨List.mem_of_getElem? (i := 262) (by decide +kernel), by decide +kernel⟩
theorem wsX0_needOfPair : (.static yX0_needOfPair : Cond) ∈ TBLG := List.mem_filter.mpr ⟨List.mem_of_getElem? (i := 466) (by decide +kernel), by decide +kernel⟩
theorem wcX0_needOfPair : (.code yX0_needOfPair cX0_needOfPair 2 (some .int) : Cond) ∈ TBLG := List.mem_filter.mpr ⟨List.mem_of_getElem? (i := 467) (by decide +kernel), by decide +kernel⟩
theorem wsX0_operate : (.static yX0_operate : Cond) ∈ TBLG := List.mem_filter.mpr ⟨List.mem_of_getElem? (i := 469) (by decide +kernel), by decide +kernel⟩
theorem wcX0_operate : (.code yX0_operate cX0_operate 7 (some .int) : Cond) ∈ TBLG := List.mem_filter.mpr ⟨List.mem_of_getElem? (i := 470) (by decide +kernel), by decide +kernel⟩
theorem wiX0_pairs : (.instanceMethod yX0_pairs : Cond) ∈ TBLG := List.mem_filter.mpr ⟨List.mem_of_getElem? (i := 574) (by decide +kernel), by decide +kernel⟩
theorem wvX0_pairs : (.selects RX0 yX0_pairs yX0_pairs : Cond) ∈ TBLG := List.mem_filter.mpr ⟨List.mem_of_getElem? (i := 43) (by decide +kernel), by decide +kernel⟩
theorem wcX0_pairs : (.code yX0_pairs cX0_pairs 3 (some .int) : Cond) ∈ TBLG := List.mem_filter.mpr ⟨List.mem_of_getElem? (i := 575) (by decide +kernel), by decide +kernel⟩
theorem wiX0_put : (.instanceMethod yX0_put : Cond) ∈ TBLG := List.mem_filter.mpr ⟨List.mem_of_getElem? (i := 441) (by decide +kernel), by decide +kernel⟩
theorem wvX0_put : (.selects RX0 yX0_put yX0_put : Cond) ∈ TBLG := List.mem_filter.mpr ⟨List.mem_of_getElem? (i := 31) (by decide +kernel), by decide +kernel⟩
theorem wcX0_put : (.code yX0_put cX0_put 5 none : Cond) ∈ TBLG := List.mem_filter.mpr ⟨List.mem_of_getElem? (i := 442) (by decide +kernel), by decide +kernel⟩
theorem wiX0_rightOf : (.instanceMethod yX0_rightOf : Cond) ∈ TBLG := List.mem_filter.mpr ⟨List.mem_of_getElem? (i := 462) (by decide +kernel), by decide +kernel⟩
theorem wvX0_rightOf : (.selects RX0 yX0_rightOf yX0_rightOf : Cond) ∈ TBLG := List.mem_filter.mpr ⟨List.mem_of_getElem? (i := 36) (by decide +kernel), by decide +kernel⟩
theorem wcX0_rightOf : (.code yX0_rightOf cX0_rightOf 2 (some .int) : Cond) ∈ TBLG := List.mem_filter.mpr ⟨List.mem_of_getElem? (i := 463) (by decide +kernel), by decide +kernel⟩
theorem wiX0_sizeOf : (.instanceMethod yX0_sizeOf : Cond) ∈ TBLG := List.mem_filter.mpr ⟨List.mem_of_getElem? (i := 453) (by decide +kernel), by decide +kernel⟩
theorem wvX0_sizeOf : (.selects RX0 yX0_sizeOf yX0_sizeOf : Cond) ∈ TBLG := List.mem_filter.mpr ⟨List.mem_of_getElem? (i := 34) (by decide +kernel), by decide +kernel⟩
theorem wcX0_sizeOf : (.code yX0_sizeOf cX0_sizeOf 2 (some .int) : Cond) ∈ TBLG := List.mem_filter.mpr ⟨List.mem_of_getElem? (i := 454) (by decide +kernel), by decide +kernel⟩
theorem wiX0_valueOf : (.instanceMethod yX0_valueOf : Cond) ∈ TBLG := List.mem_filter.mpr ⟨List.mem_of_getElem? (i := 449) (by decide +kernel), by decide +kernel⟩
theorem wvX0_valueOf : (.selects RX0 yX0_valueOf yX0_valueOf : Cond) ∈ TBLG := List.mem_filter.mpr ⟨List.mem_of_getElem? (i := 33) (by decide +kernel), by decide +kernel⟩
theorem wcX0_valueOf : (.code yX0_valueOf cX0_valueOf 2 (some .int) : Cond) ∈ TBLG := List.mem_filter.mpr ⟨List.mem_of_getElem? (i := 450) (by decide +kernel), by decide +kernel⟩
theorem wiX1_add : (.instanceMethod yX1_add : Cond) ∈ TBLG := List.mem_filter.mpr ⟨List.mem_of_getElem? (i := 349) (by decide +kernel), by decide +kernel⟩
theorem wvX1_add : (.selects RX1 yX1_add yX1_add : Cond) ∈ TBLG := List.mem_filter.mpr ⟨List.mem_of_getElem? (i := 13) (by decide +kernel), by decide +kernel⟩
theorem wcX1_add : (.code yX1_add cX1_add 3 (some .boolean) : Cond) ∈ TBLG := List.mem_filter.mpr ⟨List.mem_of_getElem? (i := 350) (by decide +kernel), by decide +kernel⟩
theorem wiX1_addAll : (.instanceMethod yX1_addAll : Cond) ∈ TBLG := List.mem_filter.mpr ⟨List.mem_of_getElem? (i := 396) (by decide +kernel), by decide +kernel⟩
theorem wvX1_addAll : (.selects RX1 yX1_addAll yX1_addAll : Cond) ∈ TBLG := List.mem_filter.mpr ⟨List.mem_of_getElem? (i := 23) (by decide +kernel), by decide +kernel⟩
theorem wcX1_addAll : (.code yX1_addAll cX1_addAll 4 none : Cond) ∈ TBLG := List.mem_filter.mpr ⟨List.mem_of_getElem? (i := 397) (by decide +kernel), by decide +kernel⟩
theorem wiX1_behind : (.instanceMethod yX1_behind : Cond) ∈ TBLG := List.mem_filter.mpr ⟨List.mem_of_getElem? (i := 511) (by decide +kernel), by decide +kernel⟩
theorem wvX1_behind : (.selects RX1 yX1_behind yX1_behind : Cond) ∈ TBLG := List.mem_filter.mpr ⟨List.mem_of_getElem? (i := 39) (by decide +kernel), by decide +kernel⟩
theorem wcX1_behind : (.code yX1_behind cX1_behind 4 (some .int) : Cond) ∈ TBLG := List.mem_filter.mpr ⟨List.mem_of_getElem? (i := 512) (by decide +kernel), by decide +kernel⟩
theorem wiX1_contentOf : (.instanceMethod yX1_contentOf : Cond) ∈ TBLG := List.mem_filter.mpr ⟨List.mem_of_getElem? (i := 408) (by decide +kernel), by decide +kernel⟩
theorem wvX1_contentOf : (.selects RX1 yX1_contentOf yX1_contentOf : Cond) ∈ TBLG := List.mem_filter.mpr ⟨List.mem_of_getElem? (i := 26) (by decide +kernel), by decide +kernel⟩
theorem wcX1_contentOf : (.code yX1_contentOf cX1_contentOf 2 (some .int) : Cond) ∈ TBLG := List.mem_filter.mpr ⟨List.mem_of_getElem? (i := 409) (by decide +kernel), by decide +kernel⟩
theorem wiX1_copy : (.instanceMethod yX1_copy : Cond) ∈ TBLG := List.mem_filter.mpr ⟨List.mem_of_getElem? (i := 392) (by decide +kernel), by decide +kernel⟩
theorem wvX1_copy : (.selects RX1 yX1_copy yX1_copy : Cond) ∈ TBLG := List.mem_filter.mpr ⟨List.mem_of_getElem? (i := 22) (by decide +kernel), by decide +kernel⟩
theorem wcX1_copy : (.code yX1_copy cX1_copy 2 none : Cond) ∈ TBLG := List.mem_filter.mpr ⟨List.mem_of_getElem? (i := 393) (by decide +kernel), by decide +kernel⟩
theorem wiX1_exchange : (.instanceMethod yX1_exchange : Cond) ∈ TBLG := List.mem_filter.mpr ⟨List.mem_of_getElem? (i := 507) (by decide +kernel), by decide +kernel⟩
theorem wvX1_exchange : (.selects RX1 yX1_exchange yX1_exchange : Cond) ∈ TBLG := List.mem_filter.mpr ⟨List.mem_of_getElem? (i := 38) (by decide +kernel), by decide +kernel⟩
theorem wcX1_exchange : (.code yX1_exchange cX1_exchange 4 none : Cond) ∈ TBLG := List.mem_filter.mpr ⟨List.mem_of_getElem? (i := 508) (by decide +kernel), by decide +kernel⟩
theorem wiX1_has : (.instanceMethod yX1_has : Cond) ∈ TBLG := List.mem_filter.mpr ⟨List.mem_of_getElem? (i := 404) (by decide +kernel), by decide +kernel⟩
theorem wvX1_has : (.selects RX1 yX1_has yX1_has : Cond) ∈ TBLG := List.mem_filter.mpr ⟨List.mem_of_getElem? (i := 25) (by decide +kernel), by decide +kernel⟩
theorem wcX1_has : (.code yX1_has cX1_has 2 (some .boolean) : Cond) ∈ TBLG := List.mem_filter.mpr ⟨List.mem_of_getElem? (i := 405) (by decide +kernel), by decide +kernel⟩
theorem wiX1_hasKind : (.instanceMethod yX1_hasKind : Cond) ∈ TBLG := List.mem_filter.mpr ⟨List.mem_of_getElem? (i := 427) (by decide +kernel), by decide +kernel⟩
theorem wvX1_hasKind : (.selects RX1 yX1_hasKind yX1_hasKind : Cond) ∈ TBLG := List.mem_filter.mpr ⟨List.mem_of_getElem? (i := 29) (by decide +kernel), by decide +kernel⟩
theorem wcX1_hasKind : (.code yX1_hasKind cX1_hasKind 3 (some .boolean) : Cond) ∈ TBLG := List.mem_filter.mpr ⟨List.mem_of_getElem? (i := 428) (by decide +kernel), by decide +kernel⟩
theorem wiX1_insert : (.instanceMethod yX1_insert : Cond) ∈ TBLG := List.mem_filter.mpr ⟨List.mem_of_getElem? (i := 369) (by decide +kernel), by decide +kernel⟩
theorem wvX1_insert : (.selects RX1 yX1_insert yX1_insert : Cond) ∈ TBLG := List.mem_filter.mpr ⟨List.mem_of_getElem? (i := 17) (by decide +kernel), by decide +kernel⟩
theorem wcX1_insert : (.code yX1_insert cX1_insert 4 (some .boolean) : Cond) ∈ TBLG := List.mem_filter.mpr ⟨List.mem_of_getElem? (i := 370) (by decide +kernel), by decide +kernel⟩
theorem wiX1_isFull : (.instanceMethod yX1_isFull : Cond) ∈ TBLG := List.mem_filter.mpr ⟨List.mem_of_getElem? (i := 345) (by decide +kernel), by decide +kernel⟩
theorem wvX1_isFull : (.selects RX1 yX1_isFull yX1_isFull : Cond) ∈ TBLG := List.mem_filter.mpr ⟨List.mem_of_getElem? (i := 12) (by decide +kernel), by decide +kernel⟩
theorem wcX1_isFull : (.code yX1_isFull cX1_isFull 1 (some .boolean) : Cond) ∈ TBLG := List.mem_filter.mpr ⟨List.mem_of_getElem? (i := 346) (by decide +kernel), by decide +kernel⟩
theorem wiX1_kindOf : (.instanceMethod yX1_kindOf : Cond) ∈ TBLG := List.mem_filter.mpr ⟨List.mem_of_getElem? (i := 400) (by decide +kernel), by decide +kernel⟩
theorem wvX1_kindOf : (.selects RX1 yX1_kindOf yX1_kindOf : Cond) ∈ TBLG := List.mem_filter.mpr ⟨List.mem_of_getElem? (i := 24) (by decide +kernel), by decide +kernel⟩
theorem wcX1_kindOf : (.code yX1_kindOf cX1_kindOf 2 (some .int) : Cond) ∈ TBLG := List.mem_filter.mpr ⟨List.mem_of_getElem? (i := 401) (by decide +kernel), by decide +kernel⟩
theorem wiX1_turnAround : (.instanceMethod yX1_turnAround : Cond) ∈ TBLG := List.mem_filter.mpr ⟨List.mem_of_getElem? (i := 516) (by decide +kernel), by decide +kernel⟩
theorem wvX1_turnAround : (.selects RX1 yX1_turnAround yX1_turnAround : Cond) ∈ TBLG := List.mem_filter.mpr ⟨List.mem_of_getElem? (i := 40) (by decide +kernel), by decide +kernel⟩
theorem wcX1_turnAround : (.code yX1_turnAround cX1_turnAround 7 none : Cond) ∈ TBLG := List.mem_filter.mpr ⟨List.mem_of_getElem? (i := 517) (by decide +kernel), by decide +kernel⟩
theorem wsX3_isDigit : (.static yX3_isDigit : Cond) ∈ TBLG := List.mem_filter.mpr ⟨List.mem_of_getElem? (i := 357) (by decide +kernel), by decide +kernel⟩
theorem wcX3_isDigit : (.code yX3_isDigit cX3_isDigit 1 (some .boolean) : Cond) ∈ TBLG := List.mem_filter.mpr ⟨List.mem_of_getElem? (i := 358) (by decide +kernel), by decide +kernel⟩
theorem wiX3_pass : (.instanceMethod yX3_pass : Cond) ∈ TBLG := List.mem_filter.mpr ⟨List.mem_of_getElem? (i := 321) (by decide +kernel), by decide +kernel⟩
theorem wvX3_pass : (.selects RX3 yX3_pass yX3_pass : Cond) ∈ TBLG := List.mem_filter.mpr ⟨List.mem_of_getElem? (i := 6) (by decide +kernel), by decide +kernel⟩
theorem wcX3_pass : (.code yX3_pass cX3_pass 3 (some .boolean) : Cond) ∈ TBLG := List.mem_filter.mpr ⟨List.mem_of_getElem? (i := 322) (by decide +kernel), by decide +kernel⟩
theorem wiX3_readFactor : (.instanceMethod yX3_readFactor : Cond) ∈ TBLG := List.mem_filter.mpr ⟨List.mem_of_getElem? (i := 337) (by decide +kernel), by decide +kernel⟩
theorem wvX3_readFactor : (.selects RX3 yX3_readFactor yX3_readFactor : Cond) ∈ TBLG := List.mem_filter.mpr ⟨List.mem_of_getElem? (i := 10) (by decide +kernel), by decide +kernel⟩
theorem wcX3_readFactor : (.code yX3_readFactor cX3_readFactor 4 (some .boolean) : Cond) ∈ TBLG := List.mem_filter.mpr ⟨List.mem_of_getElem? (i := 338) (by decide +kernel), by decide +kernel⟩
theorem wiX3_readLeaf : (.instanceMethod yX3_readLeaf : Cond) ∈ TBLG := List.mem_filter.mpr ⟨List.mem_of_getElem? (i := 354) (by decide +kernel), by decide +kernel⟩
theorem wvX3_readLeaf : (.selects RX3 yX3_readLeaf yX3_readLeaf : Cond) ∈ TBLG := List.mem_filter.mpr ⟨List.mem_of_getElem? (i := 14) (by decide +kernel), by decide +kernel⟩
theorem wcX3_readLeaf : (.code yX3_readLeaf cX3_readLeaf 4 (some .boolean) : Cond) ∈ TBLG := List.mem_filter.mpr ⟨List.mem_of_getElem? (i := 355) (by decide +kernel), by decide +kernel⟩
theorem wiX3_readNested : (.instanceMethod yX3_readNested : Cond) ∈ TBLG := List.mem_filter.mpr ⟨List.mem_of_getElem? (i := 341) (by decide +kernel), by decide +kernel⟩
theorem wvX3_readNested : (.selects RX3 yX3_readNested yX3_readNested : Cond) ∈ TBLG := List.mem_filter.mpr ⟨List.mem_of_getElem? (i := 11) (by decide +kernel), by decide +kernel⟩
theorem wcX3_readNested : (.code yX3_readNested cX3_readNested 4 (some .boolean) : Cond) ∈ TBLG := List.mem_filter.mpr ⟨List.mem_of_getElem? (i := 342) (by decide +kernel), by decide +kernel⟩
theorem wiX3_readNumber : (.instanceMethod yX3_readNumber : Cond) ∈ TBLG := List.mem_filter.mpr ⟨List.mem_of_getElem? (i := 361) (by decide +kernel), by decide +kernel⟩
theorem wvX3_readNumber : (.selects RX3 yX3_readNumber yX3_readNumber : Cond) ∈ TBLG := List.mem_filter.mpr ⟨List.mem_of_getElem? (i := 15) (by decide +kernel), by decide +kernel⟩
theorem wcX3_readNumber : (.code yX3_readNumber cX3_readNumber 3 (some .int) : Cond) ∈ TBLG := List.mem_filter.mpr ⟨List.mem_of_getElem? (i := 362) (by decide +kernel), by decide +kernel⟩
theorem wiX3_readOperation : (.instanceMethod yX3_readOperation : Cond) ∈ TBLG := List.mem_filter.mpr ⟨List.mem_of_getElem? (i := 365) (by decide +kernel), by decide +kernel⟩
theorem wvX3_readOperation : (.selects RX3 yX3_readOperation yX3_readOperation : Cond) ∈ TBLG := List.mem_filter.mpr ⟨List.mem_of_getElem? (i := 16) (by decide +kernel), by decide +kernel⟩
theorem wcX3_readOperation : (.code yX3_readOperation cX3_readOperation 5 (some .boolean) : Cond) ∈ TBLG := List.mem_filter.mpr ⟨List.mem_of_getElem? (i := 366) (by decide +kernel), by decide +kernel⟩
theorem wiX3_readProduct : (.instanceMethod yX3_readProduct : Cond) ∈ TBLG := List.mem_filter.mpr ⟨List.mem_of_getElem? (i := 333) (by decide +kernel), by decide +kernel⟩
theorem wvX3_readProduct : (.selects RX3 yX3_readProduct yX3_readProduct : Cond) ∈ TBLG := List.mem_filter.mpr ⟨List.mem_of_getElem? (i := 9) (by decide +kernel), by decide +kernel⟩
theorem wcX3_readProduct : (.code yX3_readProduct cX3_readProduct 7 (some .boolean) : Cond) ∈ TBLG := List.mem_filter.mpr ⟨List.mem_of_getElem? (i := 334) (by decide +kernel), by decide +kernel⟩
theorem wiX3_readSheet : (.instanceMethod yX3_readSheet : Cond) ∈ TBLG := List.mem_filter.mpr ⟨List.mem_of_getElem? (i := 317) (by decide +kernel), by decide +kernel⟩
theorem wvX3_readSheet : (.selects RX3 yX3_readSheet yX3_readSheet : Cond) ∈ TBLG := List.mem_filter.mpr ⟨List.mem_of_getElem? (i := 5) (by decide +kernel), by decide +kernel⟩
theorem wcX3_readSheet : (.code yX3_readSheet cX3_readSheet 2 (some .boolean) : Cond) ∈ TBLG := List.mem_filter.mpr ⟨List.mem_of_getElem? (i := 318) (by decide +kernel), by decide +kernel⟩
theorem wiX3_readSum : (.instanceMethod yX3_readSum : Cond) ∈ TBLG := List.mem_filter.mpr ⟨List.mem_of_getElem? (i := 329) (by decide +kernel), by decide +kernel⟩
theorem wvX3_readSum : (.selects RX3 yX3_readSum yX3_readSum : Cond) ∈ TBLG := List.mem_filter.mpr ⟨List.mem_of_getElem? (i := 8) (by decide +kernel), by decide +kernel⟩
theorem wcX3_readSum : (.code yX3_readSum cX3_readSum 8 (some .boolean) : Cond) ∈ TBLG := List.mem_filter.mpr ⟨List.mem_of_getElem? (i := 330) (by decide +kernel), by decide +kernel⟩
theorem wiX3_sign : (.instanceMethod yX3_sign : Cond) ∈ TBLG := List.mem_filter.mpr ⟨List.mem_of_getElem? (i := 325) (by decide +kernel), by decide +kernel⟩
theorem wvX3_sign : (.selects RX3 yX3_sign yX3_sign : Cond) ∈ TBLG := List.mem_filter.mpr ⟨List.mem_of_getElem? (i := 7) (by decide +kernel), by decide +kernel⟩
theorem wcX3_sign : (.code yX3_sign cX3_sign 1 (some .int) : Cond) ∈ TBLG := List.mem_filter.mpr ⟨List.mem_of_getElem? (i := 326) (by decide +kernel), by decide +kernel⟩
theorem wiX3_take : (.instanceMethod yX3_take : Cond) ∈ TBLG := List.mem_filter.mpr ⟨List.mem_of_getElem? (i := 305) (by decide +kernel), by decide +kernel⟩
theorem wvX3_take : (.selects RX3 yX3_take yX3_take : Cond) ∈ TBLG := List.mem_filter.mpr ⟨List.mem_of_getElem? (i := 4) (by decide +kernel), by decide +kernel⟩
theorem wcX3_take : (.code yX3_take cX3_take 2 (some .boolean) : Cond) ∈ TBLG := List.mem_filter.mpr ⟨List.mem_of_getElem? (i := 306) (by decide +kernel), by decide +kernel⟩
theorem wiX4_copyFormulas : (.instanceMethod yX4_copyFormulas : Cond) ∈ TBLG := List.mem_filter.mpr ⟨List.mem_of_getElem? (i := 388) (by decide +kernel), by decide +kernel⟩
theorem wvX4_copyFormulas : (.selects RX4 yX4_copyFormulas yX4_copyFormulas : Cond) ∈ TBLG := List.mem_filter.mpr ⟨List.mem_of_getElem? (i := 21) (by decide +kernel), by decide +kernel⟩
theorem wcX4_copyFormulas : (.code yX4_copyFormulas cX4_copyFormulas 3 none : Cond) ∈ TBLG := List.mem_filter.mpr ⟨List.mem_of_getElem? (i := 389) (by decide +kernel), by decide +kernel⟩
theorem wiX4_copyState : (.instanceMethod yX4_copyState : Cond) ∈ TBLG := List.mem_filter.mpr ⟨List.mem_of_getElem? (i := 384) (by decide +kernel), by decide +kernel⟩
theorem wvX4_copyState : (.selects RX4 yX4_copyState yX4_copyState : Cond) ∈ TBLG := List.mem_filter.mpr ⟨List.mem_of_getElem? (i := 20) (by decide +kernel), by decide +kernel⟩
theorem wcX4_copyState : (.code yX4_copyState cX4_copyState 2 none : Cond) ∈ TBLG := List.mem_filter.mpr ⟨List.mem_of_getElem? (i := 385) (by decide +kernel), by decide +kernel⟩
theorem wiX5_tryOrders : (.instanceMethod yX5_tryOrders : Cond) ∈ TBLG := List.mem_filter.mpr ⟨List.mem_of_getElem? (i := 578) (by decide +kernel), by decide +kernel⟩
theorem wvX5_tryOrders : (.selects RX5 yX5_tryOrders yX5_tryOrders : Cond) ∈ TBLG := List.mem_filter.mpr ⟨List.mem_of_getElem? (i := 44) (by decide +kernel), by decide +kernel⟩
theorem wcX5_tryOrders : (.code yX5_tryOrders cX5_tryOrders 3 none : Cond) ∈ TBLG := List.mem_filter.mpr ⟨List.mem_of_getElem? (i := 579) (by decide +kernel), by decide +kernel⟩
theorem wiX5_waysFor : (.instanceMethod yX5_waysFor : Cond) ∈ TBLG := List.mem_filter.mpr ⟨List.mem_of_getElem? (i := 584) (by decide +kernel), by decide +kernel⟩
theorem wvX5_waysFor : (.selects RX5 yX5_waysFor yX5_waysFor : Cond) ∈ TBLG := List.mem_filter.mpr ⟨List.mem_of_getElem? (i := 45) (by decide +kernel), by decide +kernel⟩
theorem wcX5_waysFor : (.code yX5_waysFor cX5_waysFor 8 (some .int) : Cond) ∈ TBLG := List.mem_filter.mpr ⟨List.mem_of_getElem? (i := 585) (by decide +kernel), by decide +kernel⟩
theorem wsL_acts : (.static yL_acts : Cond) ∈ TBLG := List.mem_filter.mpr ⟨List.mem_of_getElem? (i := 480) (by decide +kernel), by decide +kernel⟩
theorem wcL_acts : (.code yL_acts cL_acts 18 (some .boolean) : Cond) ∈ TBLG := List.mem_filter.mpr ⟨List.mem_of_getElem? (i := 481) (by decide +kernel), by decide +kernel⟩
theorem wsL_cell : (.static yL_cell : Cond) ∈ TBLG := List.mem_filter.mpr ⟨List.mem_of_getElem? (i := 276) (by decide +kernel), by decide +kernel⟩
theorem wcL_cell : (.code yL_cell cL_cell 2 (some .int) : Cond) ∈ TBLG := List.mem_filter.mpr ⟨List.mem_of_getElem? (i := 277) (by decide +kernel), by decide +kernel⟩
theorem wsL_expand : (.static yL_expand : Cond) ∈ TBLG := List.mem_filter.mpr ⟨List.mem_of_getElem? (i := 524) (by decide +kernel), by decide +kernel⟩
theorem wcL_expand : (.code yL_expand cL_expand 11 (some .int) : Cond) ∈ TBLG := List.mem_filter.mpr ⟨List.mem_of_getElem? (i := 525) (by decide +kernel), by decide +kernel⟩
theorem wsL_grow : (.static yL_grow : Cond) ∈ TBLG := List.mem_filter.mpr ⟨List.mem_of_getElem? (i := 292) (by decide +kernel), by decide +kernel⟩
theorem wcL_grow : (.code yL_grow cL_grow 10 none : Cond) ∈ TBLG := List.mem_filter.mpr ⟨List.mem_of_getElem? (i := 293) (by decide +kernel), by decide +kernel⟩
theorem wsL_isCheap : (.static yL_isCheap : Cond) ∈ TBLG := List.mem_filter.mpr ⟨List.mem_of_getElem? (i := 527) (by decide +kernel), by decide +kernel⟩
theorem wcL_isCheap : (.code yL_isCheap cL_isCheap 12 (some .boolean) : Cond) ∈ TBLG := List.mem_filter.mpr ⟨List.mem_of_getElem? (i := 528) (by decide +kernel), by decide +kernel⟩
theorem wsL_isFormula : (.static yL_isFormula : Cond) ∈ TBLG := List.mem_filter.mpr ⟨List.mem_of_getElem? (i := 543) (by decide +kernel), by decide +kernel⟩
theorem wcL_isFormula : (.code yL_isFormula cL_isFormula 17 (some .boolean) : Cond) ∈ TBLG := List.mem_filter.mpr ⟨List.mem_of_getElem? (i := 544) (by decide +kernel), by decide +kernel⟩
theorem wsL_isSo : (.static yL_isSo : Cond) ∈ TBLG := List.mem_filter.mpr ⟨List.mem_of_getElem? (i := 537) (by decide +kernel), by decide +kernel⟩
theorem wcL_isSo : (.code yL_isSo cL_isSo 19 (some .boolean) : Cond) ∈ TBLG := List.mem_filter.mpr ⟨List.mem_of_getElem? (i := 538) (by decide +kernel), by decide +kernel⟩
theorem wsL_low : (.static yL_low : Cond) ∈ TBLG := List.mem_filter.mpr ⟨List.mem_of_getElem? (i := 280) (by decide +kernel), by decide +kernel⟩
theorem wcL_low : (.code yL_low cL_low 2 (some .int) : Cond) ∈ TBLG := List.mem_filter.mpr ⟨List.mem_of_getElem? (i := 281) (by decide +kernel), by decide +kernel⟩
theorem wsL_part : (.static yL_part : Cond) ∈ TBLG := List.mem_filter.mpr ⟨List.mem_of_getElem? (i := 521) (by decide +kernel), by decide +kernel⟩
theorem wcL_part : (.code yL_part cL_part 5 (some .int) : Cond) ∈ TBLG := List.mem_filter.mpr ⟨List.mem_of_getElem? (i := 522) (by decide +kernel), by decide +kernel⟩
theorem wsL_put : (.static yL_put : Cond) ∈ TBLG := List.mem_filter.mpr ⟨List.mem_of_getElem? (i := 297) (by decide +kernel), by decide +kernel⟩
theorem wcL_put : (.code yL_put cL_put 3 (some .boolean) : Cond) ∈ TBLG := List.mem_filter.mpr ⟨List.mem_of_getElem? (i := 298) (by decide +kernel), by decide +kernel⟩
theorem wsL_reads : (.static yL_reads : Cond) ∈ TBLG := List.mem_filter.mpr ⟨List.mem_of_getElem? (i := 284) (by decide +kernel), by decide +kernel⟩
theorem wcL_reads : (.code yL_reads cL_reads 12 (some .boolean) : Cond) ∈ TBLG := List.mem_filter.mpr ⟨List.mem_of_getElem? (i := 285) (by decide +kernel), by decide +kernel⟩
theorem wsL_tell : (.static yL_tell : Cond) ∈ TBLG := List.mem_filter.mpr ⟨List.mem_of_getElem? (i := 530) (by decide +kernel), by decide +kernel⟩
theorem wcL_tell : (.code yL_tell cL_tell 14 none : Cond) ∈ TBLG := List.mem_filter.mpr ⟨List.mem_of_getElem? (i := 531) (by decide +kernel), by decide +kernel⟩
theorem wsL_types : (.static yL_types : Cond) ∈ TBLG := List.mem_filter.mpr ⟨List.mem_of_getElem? (i := 309) (by decide +kernel), by decide +kernel⟩
theorem wcL_types : (.code yL_types cL_types 12 (some .boolean) : Cond) ∈ TBLG := List.mem_filter.mpr ⟨List.mem_of_getElem? (i := 310) (by decide +kernel), by decide +kernel⟩
theorem wsL_worths : (.static yL_worths : Cond) ∈ TBLG := List.mem_filter.mpr ⟨List.mem_of_getElem? (i := 540) (by decide +kernel), by decide +kernel⟩
theorem wcL_worths : (.code yL_worths cL_worths 12 none : Cond) ∈ TBLG := List.mem_filter.mpr ⟨List.mem_of_getElem? (i := 541) (by decide +kernel), by decide +kernel⟩
theorem w0X0 : (.initialized RX0 : Cond) ∈ TBLG := List.mem_filter.mpr ⟨List.mem_of_getElem? (i := 54) (by decide +kernel), by decide +kernel⟩
theorem w0X1 : (.initialized RX1 : Cond) ∈ TBLG := List.mem_filter.mpr ⟨List.mem_of_getElem? (i := 50) (by decide +kernel), by decide +kernel⟩
theorem w0X2 : (.initialized RX2 : Cond) ∈ TBLG := List.mem_filter.mpr ⟨List.mem_of_getElem? (i := 52) (by decide +kernel), by decide +kernel⟩
theorem w0X3 : (.initialized RX3 : Cond) ∈ TBLG := List.mem_filter.mpr ⟨List.mem_of_getElem? (i := 48) (by decide +kernel), by decide +kernel⟩
theorem w0X4 : (.initialized RX4 : Cond) ∈ TBLG := List.mem_filter.mpr ⟨List.mem_of_getElem? (i := 49) (by decide +kernel), by decide +kernel⟩
theorem w0X5 : (.initialized RX5 : Cond) ∈ TBLG := List.mem_filter.mpr ⟨List.mem_of_getElem? (i := 53) (by decide +kernel), by decide +kernel⟩
theorem w0X6 : (.initialized RX6 : Cond) ∈ TBLG := List.mem_filter.mpr ⟨List.mem_of_getElem? (i := 47) (by decide +kernel), by decide +kernel⟩
theorem w0L : (.initialized RL : Cond) ∈ TBLG := List.mem_filter.mpr ⟨List.mem_of_getElem? (i := 46) (by decide +kernel), by decide +kernel⟩
theorem w0Math : (.initialized "java/lang/Math" : Cond) ∈ TBLG := List.mem_filter.mpr ⟨List.mem_of_getElem? (i := 51) (by decide +kernel), by decide +kernel⟩
theorem w0System : (.initialized "java/lang/System" : Cond) ∈ TBLG := List.mem_filter.mpr ⟨List.mem_of_getElem? (i := 55) (by decide +kernel), by decide +kernel⟩
theorem wsM_max : (.static Lib.Math.max.name : Cond) ∈ TBLG := List.mem_filter.mpr ⟨List.mem_of_getElem? (i := 84) (by decide +kernel), by decide +kernel⟩
theorem wcM_max : (.code Lib.Math.max.name Lib.Math.max.code 2 (some .int) : Cond) ∈ TBLG := List.mem_filter.mpr ⟨List.mem_of_getElem? (i := 85) (by decide +kernel), by decide +kernel⟩
theorem wsM_min : (.static Lib.Math.min.name : Cond) ∈ TBLG := List.mem_filter.mpr ⟨List.mem_of_getElem? (i := 434) (by decide +kernel), by decide +kernel⟩
theorem wcM_min : (.code Lib.Math.min.name Lib.Math.min.code 2 (some .int) : Cond) ∈ TBLG := List.mem_filter.mpr ⟨List.mem_of_getElem? (i := 435) (by decide +kernel), by decide +kernel⟩
theorem wsM_max_long : (.static Lib.MathLoose.max_long.x : Cond) ∈ TBLG := List.mem_filter.mpr ⟨List.mem_of_getElem? (i := 477) (by decide +kernel), by decide +kernel⟩
theorem wcM_max_long : (.code Lib.MathLoose.max_long.x Lib.MathLoose.max_long.code 4 (some .long) : Cond) ∈ TBLG := List.mem_filter.mpr ⟨List.mem_of_getElem? (i := 478) (by decide +kernel), by decide +kernel⟩
theorem wsM_min_long : (.static Lib.MathLoose.min_long.x : Cond) ∈ TBLG := List.mem_filter.mpr ⟨List.mem_of_getElem? (i := 474) (by decide +kernel), by decide +kernel⟩
theorem wcM_min_long : (.code Lib.MathLoose.min_long.x Lib.MathLoose.min_long.code 4 (some .long) : Cond) ∈ TBLG := List.mem_filter.mpr ⟨List.mem_of_getElem? (i := 475) (by decide +kernel), by decide +kernel⟩
theorem wsM_copy : (.static arraycopyName : Cond) ∈ TBLG := List.mem_filter.mpr ⟨List.mem_of_getElem? (i := 372) (by decide +kernel), by decide +kernel⟩
theorem wnM_copy : (.native arraycopyName : Cond) ∈ TBLG := List.mem_filter.mpr ⟨List.mem_of_getElem? (i := 373) (by decide +kernel), by decide +kernel⟩
theorem inG_X0 : ∀ w ∈ u_ws RX0 TX0 7, w ∈ TBLG := by
  have h : u_ws RX0 TX0 7 = ([206, 208, 210, 212, 214, 216, 218] : List Nat).filterMap (fun i => lw_tbl[i]?) := by decide +kernel
  have h2 : (u_ws RX0 TX0 7).all goodWord = true := by decide +kernel
  intro w hw
  refine List.mem_filter.mpr ⟨?_, List.all_eq_true.mp h2 w hw⟩
  rw [h] at hw
  obtain ⟨i, -, hi⟩ := List.mem_filterMap.mp hw
  exact List.mem_of_getElem? hi
theorem inG_X1 : ∀ w ∈ u_ws RX1 TX1 3, w ∈ TBLG := by
  have h : u_ws RX1 TX1 3 = ([93, 95, 97] : List Nat).filterMap (fun i => lw_tbl[i]?) := by decide +kernel
  have h2 : (u_ws RX1 TX1 3).all goodWord = true := by decide +kernel
  intro w hw
  refine List.mem_filter.mpr ⟨?_, List.all_eq_true.mp h2 w hw⟩
  rw [h] at hw
  obtain ⟨i, -, hi⟩ := List.mem_filterMap.mp hw
  exact List.mem_of_getElem? hi
theorem inG_X2 : ∀ w ∈ u_ws RX2 TX2 10, w ∈ TBLG := by
  have h : u_ws RX2 TX2 10 = ([151, 153, 155, 157, 159, 161, 163, 165, 167, 169] : List Nat).filterMap (fun i => lw_tbl[i]?) := by decide +kernel
  have h2 : (u_ws RX2 TX2 10).all goodWord = true := by decide +kernel
  intro w hw
  refine List.mem_filter.mpr ⟨?_, List.all_eq_true.mp h2 w hw⟩
  rw [h] at hw
  obtain ⟨i, -, hi⟩ := List.mem_filterMap.mp hw
  exact List.mem_of_getElem? hi
theorem inG_X3 : ∀ w ∈ u_ws RX3 TX3 4, w ∈ TBLG := by
  have h : u_ws RX3 TX3 4 = ([127, 129, 131, 133] : List Nat).filterMap (fun i => lw_tbl[i]?) := by decide +kernel
  have h2 : (u_ws RX3 TX3 4).all goodWord = true := by decide +kernel
  intro w hw
  refine List.mem_filter.mpr ⟨?_, List.all_eq_true.mp h2 w hw⟩
  rw [h] at hw
  obtain ⟨i, -, hi⟩ := List.mem_filterMap.mp hw
  exact List.mem_of_getElem? hi
theorem inG_X4 : ∀ w ∈ u_ws RX4 TX4 4, w ∈ TBLG := by
  have h : u_ws RX4 TX4 4 = ([111, 113, 115, 117] : List Nat).filterMap (fun i => lw_tbl[i]?) := by decide +kernel
  have h2 : (u_ws RX4 TX4 4).all goodWord = true := by decide +kernel
  intro w hw
  refine List.mem_filter.mpr ⟨?_, List.all_eq_true.mp h2 w hw⟩
  rw [h] at hw
  obtain ⟨i, -, hi⟩ := List.mem_filterMap.mp hw
  exact List.mem_of_getElem? hi
theorem inG_X5 : ∀ w ∈ u_ws RX5 TX5 3, w ∈ TBLG := by
  have h : u_ws RX5 TX5 3 = ([182, 184, 186] : List Nat).filterMap (fun i => lw_tbl[i]?) := by decide +kernel
  have h2 : (u_ws RX5 TX5 3).all goodWord = true := by decide +kernel
  intro w hw
  refine List.mem_filter.mpr ⟨?_, List.all_eq_true.mp h2 w hw⟩
  rw [h] at hw
  obtain ⟨i, -, hi⟩ := List.mem_filterMap.mp hw
  exact List.mem_of_getElem? hi
theorem inG_X6 : ∀ w ∈ u_ws RX6 TX6 7, w ∈ TBLG := by
  have h : u_ws RX6 TX6 7 = ([228, 230, 232, 234, 236, 238, 240] : List Nat).filterMap (fun i => lw_tbl[i]?) := by decide +kernel
  have h2 : (u_ws RX6 TX6 7).all goodWord = true := by decide +kernel
  intro w hw
  refine List.mem_filter.mpr ⟨?_, List.all_eq_true.mp h2 w hw⟩
  rw [h] at hw
  obtain ⟨i, -, hi⟩ := List.mem_filterMap.mp hw
  exact List.mem_of_getElem? hi
