def AW : List Cond := lw_tbl.filter goodWord
theorem aw_ok : AW.all goodWord = true := List.all_eq_true.mpr (fun _ h => (List.mem_filter.mp h).2)
theorem aw_in : ∀ w ∈ AW, w ∈ lw_tbl := fun _ h => (List.mem_filter.mp h).1
theorem aw1 {w : Cond} (i : Nat) (h : tables_1_1[i]? = some w) (g : goodWord w = true) : w ∈ AW := List.mem_filter.mpr ⟨List.mem_append_right _ (have h := List.mem_of_getElem? h; (List.mem_append_left _ h : w ∈ tables_1)), g⟩
theorem aw2 {w : Cond} (i : Nat) (h : tables_1_2[i]? = some w) (g : goodWord w = true) : w ∈ AW := List.mem_filter.mpr ⟨List.mem_append_right _ (have h := List.mem_of_getElem? h; (List.mem_append_right _ (List.mem_append_left _ h) : w ∈ tables_1)), g⟩
theorem aw3 {w : Cond} (i : Nat) (h : tables_1_3[i]? = some w) (g : goodWord w = true) : w ∈ AW := List.mem_filter.mpr ⟨List.mem_append_right _ (have h := List.mem_of_getElem? h; (List.mem_append_right _ (List.mem_append_right _ (List.mem_append_left _ h)) : w ∈ tables_1)), g⟩
theorem aw4 {w : Cond} (i : Nat) (h : tables_1_4[i]? = some w) (g : goodWord w = true) : w ∈ AW := List.mem_filter.mpr ⟨List.mem_append_right _ (have h := List.mem_of_getElem? h; (List.mem_append_right _ (List.mem_append_right _ (List.mem_append_right _ h)) : w ∈ tables_1)), g⟩
theorem aws {w : Cond} (i : Nat) (h : (k2_sels lw_privs)[i]? = some w) (g : goodWord w = true) : w ∈ AW := List.mem_filter.mpr ⟨List.mem_append_left _ (List.mem_of_getElem? h), g⟩
theorem wd_0 : (.fieldLink RX6 9 "IronCampaign$Table" "rows" "I" : Cond) ∈ AW := aw1 37 rfl rfl
theorem wd_1 : (.fieldLink RX6 21 "IronCampaign$Table" "most" "I" : Cond) ∈ AW := aw1 35 rfl rfl
theorem wd_2 : (.fieldLink RX6 24 "IronCampaign$Table" "width" "I" : Cond) ∈ AW := aw1 36 rfl rfl
theorem wd_3 : (.fieldLink RX6 27 "IronCampaign$Table" "cells" "[I" : Cond) ∈ AW := aw1 34 rfl rfl
theorem wd_4 : (.constantLong RX6 39 (31) : Cond) ∈ AW := aw3 44 rfl rfl
theorem wd_5 : (.fieldLink RX0 14 "IronCampaign$Column" "charges" "LIronCampaign$Table;" : Cond) ∈ AW := aw1 51 rfl rfl
theorem wd_6 : (.fieldLink RX0 20 "IronCampaign$Column" "lowest" "I" : Cond) ∈ AW := aw1 54 rfl rfl
theorem wd_7 : (.methodLink RX0 39 Lib.Math.min.name : Cond) ∈ AW := aw2 142 rfl rfl
theorem wd_8 : (.static Lib.Math.min.name : Cond) ∈ AW := aw2 122 rfl rfl
theorem wd_9 : (.initialized "java/lang/Math" : Cond) ∈ AW := aw1 4 rfl rfl
theorem wd_10 : (.code Lib.Math.min.name Lib.Math.min.code 2 (some .int) : Cond) ∈ AW := aw2 123 rfl rfl
theorem wd_11 : (.fieldLink RX2 9 "IronCampaign$Hearth" "iron" "I" : Cond) ∈ AW := aw1 68 rfl rfl
theorem wd_12 : (.fieldLink RX2 18 "IronCampaign$Hearth" "made" "I" : Cond) ∈ AW := aw1 72 rfl rfl
theorem wd_13 : (.fieldLink RX2 24 "IronCampaign$Hearth" "firstCharge" "I" : Cond) ∈ AW := aw1 76 rfl rfl
theorem wd_14 : (.fieldLink RX2 30 "IronCampaign$Hearth" "leastSort" "I" : Cond) ∈ AW := aw1 80 rfl rfl
theorem wd_15 : (.methodLink RX2 33 Lib.Math.min.name : Cond) ∈ AW := aw2 161 rfl rfl
theorem wd_16 : (.fieldLink RX2 27 "IronCampaign$Hearth" "lastCharge" "I" : Cond) ∈ AW := aw1 78 rfl rfl
theorem wd_17 : (.fieldLink RX2 15 "IronCampaign$Hearth" "holds" "I" : Cond) ∈ AW := aw1 70 rfl rfl
theorem wd_18 : (.methodLink RX2 39 Lib.Math.max.name : Cond) ∈ AW := aw2 168 rfl rfl
theorem wd_19 : (.static Lib.Math.max.name : Cond) ∈ AW := aw1 32 rfl rfl
theorem wd_20 : (.code Lib.Math.max.name Lib.Math.max.code 2 (some .int) : Cond) ∈ AW := aw1 33 rfl rfl
theorem wd_21 : (.fieldLink RX2 21 "IronCampaign$Hearth" "spilled" "I" : Cond) ∈ AW := aw1 74 rfl rfl
theorem wd_22 : (.fieldLink RX1 15 "IronCampaign$Furnace" "heat" "I" : Cond) ∈ AW := aw1 105 rfl rfl
theorem wd_23 : (.fieldLink RX1 36 "IronCampaign$Furnace" "chills" "I" : Cond) ∈ AW := aw1 119 rfl rfl
theorem wd_24 : (.fieldLink RX1 21 "IronCampaign$Furnace" "slagOfTick" "I" : Cond) ∈ AW := aw1 109 rfl rfl
theorem wd_25 : (.fieldLink RX1 9 "IronCampaign$Furnace" "blast" "I" : Cond) ∈ AW := aw1 103 rfl rfl
theorem wd_26 : (.fieldLink RX1 33 "IronCampaign$Furnace" "burned" "I" : Cond) ∈ AW := aw1 117 rfl rfl
theorem wd_27 : (.methodLink RX1 64 Lib.Math.min.name : Cond) ∈ AW := aw2 162 rfl rfl
theorem wd_28 : (.methodLink RX1 70 Lib.Math.max.name : Cond) ∈ AW := aw2 163 rfl rfl
theorem wd_29 : (.fieldLink RX1 18 "IronCampaign$Furnace" "slag" "I" : Cond) ∈ AW := aw1 107 rfl rfl
theorem wd_30 : (.fieldLink RX1 24 "IronCampaign$Furnace" "wear" "I" : Cond) ∈ AW := aw1 111 rfl rfl
theorem wd_31 : (.fieldLink RX1 30 "IronCampaign$Furnace" "ticks" "I" : Cond) ∈ AW := aw1 115 rfl rfl
theorem wd_32 : (.fieldLink RX1 27 "IronCampaign$Furnace" "life" "I" : Cond) ∈ AW := aw1 113 rfl rfl
theorem wd_33 : (.fieldLink RX1 39 "IronCampaign$Furnace" "out" "Z" : Cond) ∈ AW := aw1 121 rfl rfl
theorem wd_34 : (.fieldLink RX5 9 "IronCampaign$Signs" "seen" "[I" : Cond) ∈ AW := aw1 152 rfl rfl
theorem wd_35 : (.fieldLink RX5 15 "IronCampaign$Signs" "toLose" "[I" : Cond) ∈ AW := aw1 154 rfl rfl
theorem wd_36 : (.fieldLink RX4 33 "IronCampaign$Sale" "lots" "I" : Cond) ∈ AW := aw1 177 rfl rfl
theorem wd_37 : (.fieldLink RX4 9 "IronCampaign$Sale" "pigOf" "[I" : Cond) ∈ AW := aw1 167 rfl rfl
theorem wd_38 : (.fieldLink RX4 15 "IronCampaign$Sale" "weight" "[I" : Cond) ∈ AW := aw1 169 rfl rfl
theorem wd_39 : (.fieldLink RX4 18 "IronCampaign$Sale" "sortBit" "[I" : Cond) ∈ AW := aw1 171 rfl rfl
theorem wd_40 : (.fieldLink RX4 30 "IronCampaign$Sale" "wants" "[I" : Cond) ∈ AW := aw1 176 rfl rfl
theorem wd_41 : (.fieldLink RX4 27 "IronCampaign$Sale" "hope" "[I" : Cond) ∈ AW := aw1 175 rfl rfl
theorem wd_42 : (.methodLink RX4 64 Lib.Math.max.name : Cond) ∈ AW := aw2 230 rfl rfl
theorem wd_43 : (.fieldLink RX4 37 "IronCampaign$Sale" "bestPay" "I" : Cond) ∈ AW := aw1 179 rfl rfl
theorem wd_44 : (.fieldLink RX4 21 "IronCampaign$Sale" "way" "[I" : Cond) ∈ AW := aw1 172 rfl rfl
theorem wd_45 : (.fieldLink RX4 24 "IronCampaign$Sale" "best" "[I" : Cond) ∈ AW := aw1 173 rfl rfl
theorem wd_46 : (.methodLink RX3 40 Lib.Math.min.name : Cond) ∈ AW := aw3 14 rfl rfl
theorem wd_47 : (.methodLink RX3 46 Lib.Math.max.name : Cond) ∈ AW := aw3 15 rfl rfl
theorem wd_48 : (.fieldLink RX3 30 "IronCampaign$Planner" "length" "I" : Cond) ∈ AW := aw1 213 rfl rfl
theorem wd_49 : (.fieldLink RX3 18 "IronCampaign$Planner" "hope" "[I" : Cond) ∈ AW := aw1 208 rfl rfl
theorem wd_50 : (.fieldLink RX3 9 "IronCampaign$Planner" "water" "[I" : Cond) ∈ AW := aw1 206 rfl rfl
theorem wd_51 : (.fieldLink RX3 15 "IronCampaign$Planner" "wood" "[I" : Cond) ∈ AW := aw1 207 rfl rfl
theorem wd_52 : (.fieldLink RX3 34 "IronCampaign$Planner" "mostIron" "I" : Cond) ∈ AW := aw1 214 rfl rfl
theorem wd_53 : (.fieldLink RX3 21 "IronCampaign$Planner" "way" "[I" : Cond) ∈ AW := aw1 209 rfl rfl
theorem wd_54 : (.fieldLink RX3 24 "IronCampaign$Planner" "found" "[I" : Cond) ∈ AW := aw1 210 rfl rfl
theorem wd_55 : (.fieldLink RX3 37 "IronCampaign$Planner" "planned" "I" : Cond) ∈ AW := aw1 215 rfl rfl
theorem wd_56 : (.fieldLink RX3 27 "IronCampaign$Planner" "best" "[I" : Cond) ∈ AW := aw1 211 rfl rfl
theorem wd_57 : (.fieldLink RX7 9 "IronCampaign" "baskets" "[I" : Cond) ∈ AW := aw2 4 rfl rfl
theorem wd_58 : (.fieldLink RX7 13 "IronCampaign" "richness" "[I" : Cond) ∈ AW := aw2 5 rfl rfl
theorem wd_59 : (.fieldLink RX7 19 "IronCampaign" "column" "LIronCampaign$Column;" : Cond) ∈ AW := aw2 6 rfl rfl
theorem wd_60 : (.fieldLink RX7 33 "IronCampaign" "furnace" "LIronCampaign$Furnace;" : Cond) ∈ AW := aw2 8 rfl rfl
theorem wd_61 : (.constant RX7 126 (100000) : Cond) ∈ AW := aw2 108 rfl rfl
theorem wd_62 : (.fieldLink RX7 26 "IronCampaign" "hearth" "LIronCampaign$Hearth;" : Cond) ∈ AW := aw2 7 rfl rfl
theorem wd_63 : (.fieldLink RX7 53 "IronCampaign" "rules" "LIronCampaign$Table;" : Cond) ∈ AW := aw2 11 rfl rfl
theorem wd_64 : (.fieldLink RX7 49 "IronCampaign" "signs" "LIronCampaign$Signs;" : Cond) ∈ AW := aw2 10 rfl rfl
theorem wd_65 : (.fieldLink RX7 42 "IronCampaign" "pigs" "LIronCampaign$Table;" : Cond) ∈ AW := aw2 9 rfl rfl
theorem wd_66 : (.methodLink RX7 254 Lib.Math.max.name : Cond) ∈ AW := aw2 124 rfl rfl
theorem wd_67 : (.methodLink RX7 249 Lib.Math.min.name : Cond) ∈ AW := aw2 121 rfl rfl
theorem wd_68 : (.fieldLink RX7 56 "IronCampaign" "forges" "LIronCampaign$Table;" : Cond) ∈ AW := aw2 12 rfl rfl
theorem wd_69 : (.fieldLink RX7 62 "IronCampaign" "market" "LIronCampaign$Sale;" : Cond) ∈ AW := aw2 13 rfl rfl
theorem wd_70 : (.fieldLink RX7 79 "IronCampaign" "pigsSold" "I" : Cond) ∈ AW := aw2 17 rfl rfl
theorem wd_71 : (.fieldLink RX7 83 "IronCampaign" "paid" "I" : Cond) ∈ AW := aw2 18 rfl rfl
theorem wd_72 : (.fieldLink RX7 66 "IronCampaign" "months" "LIronCampaign$Table;" : Cond) ∈ AW := aw2 14 rfl rfl
theorem wd_73 : (.fieldLink RX7 69 "IronCampaign" "paces" "LIronCampaign$Table;" : Cond) ∈ AW := aw2 15 rfl rfl
theorem wd_74 : (.fieldLink RX7 75 "IronCampaign" "planner" "LIronCampaign$Planner;" : Cond) ∈ AW := aw2 16 rfl rfl
theorem wd_75 : (.constantLong RX7 219 (199) : Cond) ∈ AW := aw3 36 rfl rfl
theorem wd_76 : (.constantLong RX7 221 (31) : Cond) ∈ AW := aw3 37 rfl rfl
theorem wd_77 : (.fieldLink RX8 7 "IronCampaignModel" "stores" "[I" : Cond) ∈ AW := aw3 51 rfl rfl
theorem wd_78 : (.fieldLink RX8 13 "IronCampaignModel" "richness" "[I" : Cond) ∈ AW := aw3 52 rfl rfl
theorem wd_79 : (.fieldLink RX8 127 "IronCampaignModel" "charges" "I" : Cond) ∈ AW := aw3 53 rfl rfl
theorem wd_80 : (.fieldLink RX8 130 "IronCampaignModel" "lowest" "I" : Cond) ∈ AW := aw3 54 rfl rfl
theorem wd_81 : (.fieldLink RX8 16 "IronCampaignModel" "state" "[I" : Cond) ∈ AW := aw3 55 rfl rfl
theorem wd_82 : (.fieldLink RX8 19 "IronCampaignModel" "coal" "[I" : Cond) ∈ AW := aw3 56 rfl rfl
theorem wd_83 : (.fieldLink RX8 22 "IronCampaignModel" "ore" "[I" : Cond) ∈ AW := aw3 57 rfl rfl
theorem wd_84 : (.fieldLink RX8 25 "IronCampaignModel" "flux" "[I" : Cond) ∈ AW := aw3 58 rfl rfl
theorem wd_85 : (.fieldLink RX8 28 "IronCampaignModel" "kind" "[I" : Cond) ∈ AW := aw3 59 rfl rfl
theorem wd_86 : (.fieldLink RX8 31 "IronCampaignModel" "sort" "[I" : Cond) ∈ AW := aw3 60 rfl rfl
theorem wd_87 : (.fieldLink RX8 34 "IronCampaignModel" "made" "[I" : Cond) ∈ AW := aw3 61 rfl rfl
theorem wd_88 : (.fieldLink RX8 133 "IronCampaignModel" "blast" "I" : Cond) ∈ AW := aw3 62 rfl rfl
theorem wd_89 : (.constant RX8 136 (100000) : Cond) ∈ AW := aw4 19 rfl rfl
theorem wd_90 : (.fieldLink RX8 37 "IronCampaignModel" "holds" "I" : Cond) ∈ AW := aw3 63 rfl rfl
theorem wd_91 : (.fieldLink RX8 41 "IronCampaignModel" "life" "I" : Cond) ∈ AW := aw3 64 rfl rfl
theorem wd_92 : (.fieldLink RX8 144 "IronCampaignModel" "iron" "I" : Cond) ∈ AW := aw3 66 rfl rfl
theorem wd_93 : (.fieldLink RX8 189 "IronCampaignModel" "pigs" "I" : Cond) ∈ AW := aw3 78 rfl rfl
theorem wd_94 : (.fieldLink RX8 53 "IronCampaignModel" "pigWeight" "[I" : Cond) ∈ AW := aw3 79 rfl rfl
theorem wd_95 : (.fieldLink RX8 56 "IronCampaignModel" "pigSort" "[I" : Cond) ∈ AW := aw3 80 rfl rfl
theorem wd_96 : (.fieldLink RX8 44 "IronCampaignModel" "leastSort" "I" : Cond) ∈ AW := aw3 75 rfl rfl
theorem wd_97 : (.fieldLink RX8 59 "IronCampaignModel" "pigFirst" "[I" : Cond) ∈ AW := aw3 81 rfl rfl
theorem wd_98 : (.fieldLink RX8 47 "IronCampaignModel" "firstMelted" "I" : Cond) ∈ AW := aw3 76 rfl rfl
theorem wd_99 : (.fieldLink RX8 62 "IronCampaignModel" "pigLast" "[I" : Cond) ∈ AW := aw3 82 rfl rfl
theorem wd_100 : (.fieldLink RX8 50 "IronCampaignModel" "lastMelted" "I" : Cond) ∈ AW := aw3 77 rfl rfl
theorem wd_101 : (.fieldLink RX8 65 "IronCampaignModel" "pigHour" "[I" : Cond) ∈ AW := aw3 83 rfl rfl
theorem wd_102 : (.fieldLink RX8 179 "IronCampaignModel" "ticks" "I" : Cond) ∈ AW := aw3 69 rfl rfl
theorem wd_103 : (.fieldLink RX8 68 "IronCampaignModel" "pigForge" "[I" : Cond) ∈ AW := aw3 84 rfl rfl
theorem wd_104 : (.fieldLink RX8 141 "IronCampaignModel" "heat" "I" : Cond) ∈ AW := aw3 65 rfl rfl
theorem wd_105 : (.fieldLink RX8 150 "IronCampaignModel" "slag" "I" : Cond) ∈ AW := aw3 67 rfl rfl
theorem wd_106 : (.fieldLink RX8 153 "IronCampaignModel" "chills" "I" : Cond) ∈ AW := aw3 71 rfl rfl
theorem wd_107 : (.fieldLink RX8 147 "IronCampaignModel" "ironMade" "I" : Cond) ∈ AW := aw3 73 rfl rfl
theorem wd_108 : (.fieldLink RX8 71 "IronCampaignModel" "signs" "[I" : Cond) ∈ AW := aw3 85 rfl rfl
theorem wd_109 : (.fieldLink RX8 74 "IronCampaignModel" "losing" "[I" : Cond) ∈ AW := aw3 86 rfl rfl
theorem wd_110 : (.fieldLink RX8 156 "IronCampaignModel" "rules" "I" : Cond) ∈ AW := aw3 87 rfl rfl
theorem wd_111 : (.fieldLink RX8 163 "IronCampaignModel" "burned" "I" : Cond) ∈ AW := aw3 70 rfl rfl
theorem wd_112 : (.fieldLink RX8 172 "IronCampaignModel" "wear" "I" : Cond) ∈ AW := aw3 68 rfl rfl
theorem wd_113 : (.fieldLink RX8 175 "IronCampaignModel" "out" "Z" : Cond) ∈ AW := aw3 74 rfl rfl
theorem wd_114 : (.fieldLink RX8 169 "IronCampaignModel" "spilled" "I" : Cond) ∈ AW := aw3 72 rfl rfl
theorem wd_115 : (.fieldLink RX8 77 "IronCampaignModel" "ruleSign" "[I" : Cond) ∈ AW := aw3 88 rfl rfl
theorem wd_116 : (.fieldLink RX8 80 "IronCampaignModel" "ruleAbove" "[Z" : Cond) ∈ AW := aw3 89 rfl rfl
theorem wd_117 : (.fieldLink RX8 84 "IronCampaignModel" "ruleLimit" "[I" : Cond) ∈ AW := aw3 90 rfl rfl
theorem wd_118 : (.fieldLink RX8 87 "IronCampaignModel" "ruleAct" "[I" : Cond) ∈ AW := aw3 91 rfl rfl
theorem wd_119 : (.fieldLink RX8 192 "IronCampaignModel" "forges" "I" : Cond) ∈ AW := aw3 92 rfl rfl
theorem wd_120 : (.fieldLink RX8 90 "IronCampaignModel" "takes" "[I" : Cond) ∈ AW := aw3 93 rfl rfl
theorem wd_121 : (.fieldLink RX8 93 "IronCampaignModel" "wants" "[I" : Cond) ∈ AW := aw3 94 rfl rfl
theorem wd_122 : (.fieldLink RX8 96 "IronCampaignModel" "price" "[I" : Cond) ∈ AW := aw3 95 rfl rfl
theorem wd_123 : (.fieldLink RX8 195 "IronCampaignModel" "offeredMany" "I" : Cond) ∈ AW := aw3 105 rfl rfl
theorem wd_124 : (.fieldLink RX8 117 "IronCampaignModel" "offered" "[I" : Cond) ∈ AW := aw3 104 rfl rfl
theorem wd_125 : (.fieldLink RX8 120 "IronCampaignModel" "left" "[I" : Cond) ∈ AW := aw3 107 rfl rfl
theorem wd_126 : (.fieldLink RX8 206 "IronCampaignModel" "bestCode" "I" : Cond) ∈ AW := aw3 106 rfl rfl
theorem wd_127 : (.fieldLink RX8 212 "IronCampaignModel" "paid" "I" : Cond) ∈ AW := aw3 96 rfl rfl
theorem wd_128 : (.fieldLink RX8 99 "IronCampaignModel" "water" "[I" : Cond) ∈ AW := aw3 97 rfl rfl
theorem wd_129 : (.fieldLink RX8 102 "IronCampaignModel" "wood" "[I" : Cond) ∈ AW := aw3 98 rfl rfl
theorem wd_130 : (.fieldLink RX8 105 "IronCampaignModel" "paceIron" "[I" : Cond) ∈ AW := aw3 99 rfl rfl
theorem wd_131 : (.fieldLink RX8 108 "IronCampaignModel" "paceWear" "[I" : Cond) ∈ AW := aw3 100 rfl rfl
theorem wd_132 : (.fieldLink RX8 111 "IronCampaignModel" "paceCoal" "[I" : Cond) ∈ AW := aw3 101 rfl rfl
theorem wd_133 : (.fieldLink RX8 219 "IronCampaignModel" "planMany" "I" : Cond) ∈ AW := aw3 103 rfl rfl
theorem wd_134 : (.fieldLink RX8 114 "IronCampaignModel" "plan" "[I" : Cond) ∈ AW := aw3 102 rfl rfl
theorem wd_135 : (.constantLong RX8 222 (199) : Cond) ∈ AW := aw4 121 rfl rfl
theorem wd_136 : (.constantLong RX8 224 (31) : Cond) ∈ AW := aw4 122 rfl rfl
theorem wd_137 : (.code yX6_init cX6_init 3 none : Cond) ∈ AW := aw1 29 rfl rfl
theorem wd_138 : (.initialized RX6 : Cond) ∈ AW := aw1 3 rfl rfl
theorem wd_139 : (.methodLink RX0 11 yX6_init : Cond) ∈ AW := aw1 27 rfl rfl
theorem wd_140 : (.instanceMethod yX6_init : Cond) ∈ AW := aw1 28 rfl rfl
theorem wd_141 : (.code yX6_add cX6_add 1 (some .int) : Cond) ∈ AW := aw2 80 rfl rfl
theorem wd_142 : (.methodLink RX0 27 yX6_add : Cond) ∈ AW := aw2 77 rfl rfl
theorem wd_143 : (.instanceMethod yX6_add : Cond) ∈ AW := aw2 78 rfl rfl
theorem wd_144 : (.selects RX6 yX6_add yX6_add : Cond) ∈ AW := aw2 79 rfl rfl
theorem wd_145 : (.code yX6_set cX6_set 4 none : Cond) ∈ AW := aw1 239 rfl rfl
theorem wd_146 : (.methodLink RX0 31 yX6_set : Cond) ∈ AW := aw2 82 rfl rfl
theorem wd_147 : (.instanceMethod yX6_set : Cond) ∈ AW := aw1 237 rfl rfl
theorem wd_148 : (.selects RX6 yX6_set yX6_set : Cond) ∈ AW := aw1 238 rfl rfl
theorem wd_149 : (.code yX6_get cX6_get 3 (some .int) : Cond) ∈ AW := aw2 90 rfl rfl
theorem wd_150 : (.methodLink RX0 35 yX6_get : Cond) ∈ AW := aw2 99 rfl rfl
theorem wd_151 : (.instanceMethod yX6_get : Cond) ∈ AW := aw2 88 rfl rfl
theorem wd_152 : (.selects RX6 yX6_get yX6_get : Cond) ∈ AW := aw2 89 rfl rfl
theorem wd_153 : (.code yX0_burn cX0_burn 6 (some .int) : Cond) ∈ AW := aw2 141 rfl rfl
theorem wd_154 : (.initialized RX0 : Cond) ∈ AW := aw1 2 rfl rfl
theorem wd_155 : (.methodLink RX1 43 yX0_burn : Cond) ∈ AW := aw2 138 rfl rfl
theorem wd_156 : (.instanceMethod yX0_burn : Cond) ∈ AW := aw2 139 rfl rfl
theorem wd_157 : (.selects RX0 yX0_burn yX0_burn : Cond) ∈ AW := aw2 140 rfl rfl
theorem wd_158 : (.code yX0_lowestIsBurned cX0_lowestIsBurned 1 (some .boolean) : Cond) ∈ AW := aw2 146 rfl rfl
theorem wd_159 : (.methodLink RX1 49 yX0_lowestIsBurned : Cond) ∈ AW := aw2 143 rfl rfl
theorem wd_160 : (.instanceMethod yX0_lowestIsBurned : Cond) ∈ AW := aw2 144 rfl rfl
theorem wd_161 : (.selects RX0 yX0_lowestIsBurned yX0_lowestIsBurned : Cond) ∈ AW := aw2 145 rfl rfl
theorem wd_162 : (.code yX1_bringDown cX1_bringDown 10 none : Cond) ∈ AW := aw2 150 rfl rfl
theorem wd_163 : (.initialized RX1 : Cond) ∈ AW := aw1 6 rfl rfl
theorem wd_164 : (.methodLink RX1 60 yX1_bringDown : Cond) ∈ AW := aw2 147 rfl rfl
theorem wd_165 : (.instanceMethod yX1_bringDown : Cond) ∈ AW := aw2 149 rfl rfl
theorem wd_166 : (.selects RX1 yX1_bringDown yX1_bringDown : Cond) ∈ AW := aws 4 rfl rfl
theorem wd_167 : (.code yX2_spill cX2_spill 2 (some .int) : Cond) ∈ AW := aw2 167 rfl rfl
theorem wd_168 : (.initialized RX2 : Cond) ∈ AW := aw1 5 rfl rfl
theorem wd_169 : (.methodLink RX1 73 yX2_spill : Cond) ∈ AW := aw2 164 rfl rfl
theorem wd_170 : (.instanceMethod yX2_spill : Cond) ∈ AW := aw2 165 rfl rfl
theorem wd_171 : (.selects RX2 yX2_spill yX2_spill : Cond) ∈ AW := aw2 166 rfl rfl
theorem wd_172 : (.methodLink RX1 79 yX6_get : Cond) ∈ AW := aw2 151 rfl rfl
theorem wd_173 : (.methodLink RX1 84 yX6_set : Cond) ∈ AW := aw2 152 rfl rfl
theorem wd_174 : (.code yX1_sortOf cX1_sortOf 4 (some .int) : Cond) ∈ AW := aw2 156 rfl rfl
theorem wd_175 : (.methodLink RX1 88 yX1_sortOf : Cond) ∈ AW := aw2 153 rfl rfl
theorem wd_176 : (.instanceMethod yX1_sortOf : Cond) ∈ AW := aw2 155 rfl rfl
theorem wd_177 : (.selects RX1 yX1_sortOf yX1_sortOf : Cond) ∈ AW := aws 5 rfl rfl
theorem wd_178 : (.code yX2_pour cX2_pour 4 none : Cond) ∈ AW := aw2 160 rfl rfl
theorem wd_179 : (.methodLink RX1 91 yX2_pour : Cond) ∈ AW := aw2 157 rfl rfl
theorem wd_180 : (.instanceMethod yX2_pour : Cond) ∈ AW := aw2 158 rfl rfl
theorem wd_181 : (.selects RX2 yX2_pour yX2_pour : Cond) ∈ AW := aw2 159 rfl rfl
theorem wd_182 : (.methodLink RX3 49 yX6_get : Cond) ∈ AW := aw3 16 rfl rfl
theorem wd_183 : (.code yX3_goOn cX3_goOn 10 none : Cond) ∈ AW := aw3 23 rfl rfl
theorem wd_184 : (.initialized RX3 : Cond) ∈ AW := aw1 9 rfl rfl
theorem wd_185 : (.methodLink RX3 54 yX3_goOn : Cond) ∈ AW := aw3 21 rfl rfl
theorem wd_186 : (.static yX3_goOn : Cond) ∈ AW := aw3 22 rfl rfl
theorem wd_187 : (.code yX4_readPigs cX4_readPigs 3 none : Cond) ∈ AW := aw2 220 rfl rfl
theorem wd_188 : (.initialized RX4 : Cond) ∈ AW := aw1 8 rfl rfl
theorem wd_189 : (.methodLink RX4 40 yX4_readPigs : Cond) ∈ AW := aw2 217 rfl rfl
theorem wd_190 : (.instanceMethod yX4_readPigs : Cond) ∈ AW := aw2 219 rfl rfl
theorem wd_191 : (.selects RX4 yX4_readPigs yX4_readPigs : Cond) ∈ AW := aws 6 rfl rfl
theorem wd_192 : (.methodLink RX4 44 yX6_get : Cond) ∈ AW := aw2 221 rfl rfl
theorem wd_193 : (.code yX4_readHopes cX4_readHopes 5 none : Cond) ∈ AW := aw2 225 rfl rfl
theorem wd_194 : (.methodLink RX4 50 yX4_readHopes : Cond) ∈ AW := aw2 222 rfl rfl
theorem wd_195 : (.instanceMethod yX4_readHopes : Cond) ∈ AW := aw2 224 rfl rfl
theorem wd_196 : (.selects RX4 yX4_readHopes yX4_readHopes : Cond) ∈ AW := aws 7 rfl rfl
theorem wd_197 : (.code yX4_place cX4_place 6 none : Cond) ∈ AW := aw2 233 rfl rfl
theorem wd_198 : (.methodLink RX4 53 yX4_place : Cond) ∈ AW := aw2 231 rfl rfl
theorem wd_199 : (.static yX4_place : Cond) ∈ AW := aw2 232 rfl rfl
theorem wd_200 : (.code yX4_canTake cX4_canTake 5 (some .boolean) : Cond) ∈ AW := aw2 229 rfl rfl
theorem wd_201 : (.methodLink RX4 60 yX4_canTake : Cond) ∈ AW := aw2 226 rfl rfl
theorem wd_202 : (.instanceMethod yX4_canTake : Cond) ∈ AW := aw2 228 rfl rfl
theorem wd_203 : (.selects RX4 yX4_canTake yX4_canTake : Cond) ∈ AW := aws 8 rfl rfl
theorem wd_204 : (.code yX6_isFull cX6_isFull 1 (some .boolean) : Cond) ∈ AW := aw2 72 rfl rfl
theorem wd_205 : (.methodLink RX6 31 yX6_isFull : Cond) ∈ AW := aw2 81 rfl rfl
theorem wd_206 : (.instanceMethod yX6_isFull : Cond) ∈ AW := aw2 70 rfl rfl
theorem wd_207 : (.selects RX6 yX6_isFull yX6_isFull : Cond) ∈ AW := aw2 71 rfl rfl
theorem wd_208 : (.code yX6_has cX6_has 3 (some .boolean) : Cond) ∈ AW := aw2 3 rfl rfl
theorem wd_209 : (.methodLink RX6 35 yX6_has : Cond) ∈ AW := aw2 0 rfl rfl
theorem wd_210 : (.instanceMethod yX6_has : Cond) ∈ AW := aw2 2 rfl rfl
theorem wd_211 : (.selects RX6 yX6_has yX6_has : Cond) ∈ AW := aws 0 rfl rfl
theorem wd_212 : (.code yX0_init cX0_init 1 none : Cond) ∈ AW := aw1 23 rfl rfl
theorem wd_213 : (.instanceMethod yX0_init : Cond) ∈ AW := aw1 22 rfl rfl
theorem wd_214 : (.code yX2_init cX2_init 1 none : Cond) ∈ AW := aw1 66 rfl rfl
theorem wd_215 : (.instanceMethod yX2_init : Cond) ∈ AW := aw1 65 rfl rfl
theorem wd_216 : (.code yX1_init cX1_init 1 none : Cond) ∈ AW := aw1 101 rfl rfl
theorem wd_217 : (.instanceMethod yX1_init : Cond) ∈ AW := aw1 100 rfl rfl
theorem wd_218 : (.methodLink RX7 39 yX6_init : Cond) ∈ AW := aw1 145 rfl rfl
theorem wd_219 : (.code yX5_init cX5_init 2 none : Cond) ∈ AW := aw1 150 rfl rfl
theorem wd_220 : (.initialized RX5 : Cond) ∈ AW := aw1 7 rfl rfl
theorem wd_221 : (.methodLink RX7 48 yX5_init : Cond) ∈ AW := aw1 148 rfl rfl
theorem wd_222 : (.instanceMethod yX5_init : Cond) ∈ AW := aw1 149 rfl rfl
theorem wd_223 : (.code yX4_init cX4_init 1 none : Cond) ∈ AW := aw1 165 rfl rfl
theorem wd_224 : (.instanceMethod yX4_init : Cond) ∈ AW := aw1 164 rfl rfl
theorem wd_225 : (.code yX3_init cX3_init 1 none : Cond) ∈ AW := aw1 204 rfl rfl
theorem wd_226 : (.instanceMethod yX3_init : Cond) ∈ AW := aw1 203 rfl rfl
theorem wd_227 : (.methodLink RX7 86 yX6_set : Cond) ∈ AW := aw1 236 rfl rfl
theorem wd_228 : (.code yX7_within cX7_within 3 (some .boolean) : Cond) ∈ AW := aw2 56 rfl rfl
theorem wd_229 : (.initialized RX7 : Cond) ∈ AW := aw1 1 rfl rfl
theorem wd_230 : (.methodLink RX7 90 yX7_within : Cond) ∈ AW := aw2 54 rfl rfl
theorem wd_231 : (.static yX7_within : Cond) ∈ AW := aw2 55 rfl rfl
theorem wd_232 : (.code yX0_size cX0_size 1 (some .int) : Cond) ∈ AW := aw2 68 rfl rfl
theorem wd_233 : (.methodLink RX7 94 yX0_size : Cond) ∈ AW := aw2 65 rfl rfl
theorem wd_234 : (.instanceMethod yX0_size : Cond) ∈ AW := aw2 66 rfl rfl
theorem wd_235 : (.selects RX0 yX0_size yX0_size : Cond) ∈ AW := aw2 67 rfl rfl
theorem wd_236 : (.methodLink RX7 101 yX6_isFull : Cond) ∈ AW := aw2 69 rfl rfl
theorem wd_237 : (.code yX0_lay cX0_lay 6 (some .int) : Cond) ∈ AW := aw2 76 rfl rfl
theorem wd_238 : (.methodLink RX7 105 yX0_lay : Cond) ∈ AW := aw2 73 rfl rfl
theorem wd_239 : (.instanceMethod yX0_lay : Cond) ∈ AW := aw2 74 rfl rfl
theorem wd_240 : (.selects RX0 yX0_lay yX0_lay : Cond) ∈ AW := aw2 75 rfl rfl
theorem wd_241 : (.methodLink RX7 112 yX6_get : Cond) ∈ AW := aw2 87 rfl rfl
theorem wd_242 : (.code yX0_coalDownFrom cX0_coalDownFrom 4 (some .int) : Cond) ∈ AW := aw2 98 rfl rfl
theorem wd_243 : (.methodLink RX7 122 yX0_coalDownFrom : Cond) ∈ AW := aw2 95 rfl rfl
theorem wd_244 : (.instanceMethod yX0_coalDownFrom : Cond) ∈ AW := aw2 96 rfl rfl
theorem wd_245 : (.selects RX0 yX0_coalDownFrom yX0_coalDownFrom : Cond) ∈ AW := aw2 97 rfl rfl
theorem wd_246 : (.code yX7_followRules cX7_followRules 3 none : Cond) ∈ AW := aw2 116 rfl rfl
theorem wd_247 : (.methodLink RX7 140 yX7_followRules : Cond) ∈ AW := aw2 113 rfl rfl
theorem wd_248 : (.instanceMethod yX7_followRules : Cond) ∈ AW := aw2 115 rfl rfl
theorem wd_249 : (.selects RX7 yX7_followRules yX7_followRules : Cond) ∈ AW := aws 1 rfl rfl
theorem wd_250 : (.code yX1_blow cX1_blow 6 none : Cond) ∈ AW := aw2 137 rfl rfl
theorem wd_251 : (.methodLink RX7 143 yX1_blow : Cond) ∈ AW := aw2 134 rfl rfl
theorem wd_252 : (.instanceMethod yX1_blow : Cond) ∈ AW := aw2 135 rfl rfl
theorem wd_253 : (.selects RX1 yX1_blow yX1_blow : Cond) ∈ AW := aw2 136 rfl rfl
theorem wd_254 : (.code yX5_look cX5_look 5 none : Cond) ∈ AW := aw2 172 rfl rfl
theorem wd_255 : (.methodLink RX7 156 yX5_look : Cond) ∈ AW := aw2 169 rfl rfl
theorem wd_256 : (.instanceMethod yX5_look : Cond) ∈ AW := aw2 170 rfl rfl
theorem wd_257 : (.selects RX5 yX5_look yX5_look : Cond) ∈ AW := aw2 171 rfl rfl
theorem wd_258 : (.code yX7_castPig cX7_castPig 2 (some .int) : Cond) ∈ AW := aw2 128 rfl rfl
theorem wd_259 : (.methodLink RX7 159 yX7_castPig : Cond) ∈ AW := aw2 125 rfl rfl
theorem wd_260 : (.instanceMethod yX7_castPig : Cond) ∈ AW := aw2 127 rfl rfl
theorem wd_261 : (.selects RX7 yX7_castPig yX7_castPig : Cond) ∈ AW := aws 3 rfl rfl
theorem wd_262 : (.methodLink RX7 186 yX6_add : Cond) ∈ AW := aw2 129 rfl rfl
theorem wd_263 : (.code yX4_settle cX4_settle 4 none : Cond) ∈ AW := aw2 216 rfl rfl
theorem wd_264 : (.methodLink RX7 189 yX4_settle : Cond) ∈ AW := aw2 213 rfl rfl
theorem wd_265 : (.instanceMethod yX4_settle : Cond) ∈ AW := aw2 214 rfl rfl
theorem wd_266 : (.selects RX4 yX4_settle yX4_settle : Cond) ∈ AW := aw2 215 rfl rfl
theorem wd_267 : (.code yX3_readMonths cX3_readMonths 9 none : Cond) ∈ AW := aw3 13 rfl rfl
theorem wd_268 : (.methodLink RX7 208 yX3_readMonths : Cond) ∈ AW := aw3 10 rfl rfl
theorem wd_269 : (.instanceMethod yX3_readMonths : Cond) ∈ AW := aw3 11 rfl rfl
theorem wd_270 : (.selects RX3 yX3_readMonths yX3_readMonths : Cond) ∈ AW := aw3 12 rfl rfl
theorem wd_271 : (.code yX3_settle cX3_settle 5 (some .int) : Cond) ∈ AW := aw3 20 rfl rfl
theorem wd_272 : (.methodLink RX7 212 yX3_settle : Cond) ∈ AW := aw3 17 rfl rfl
theorem wd_273 : (.instanceMethod yX3_settle : Cond) ∈ AW := aw3 18 rfl rfl
theorem wd_274 : (.selects RX3 yX3_settle yX3_settle : Cond) ∈ AW := aw3 19 rfl rfl
theorem wd_275 : (.code yX7_count cX7_count 2 (some .int) : Cond) ∈ AW := aw3 31 rfl rfl
theorem wd_276 : (.methodLink RX7 223 yX7_count : Cond) ∈ AW := aw3 38 rfl rfl
theorem wd_277 : (.instanceMethod yX7_count : Cond) ∈ AW := aw3 29 rfl rfl
theorem wd_278 : (.selects RX7 yX7_count yX7_count : Cond) ∈ AW := aw3 30 rfl rfl
theorem wd_279 : (.code yX7_about cX7_about 2 (some .int) : Cond) ∈ AW := aw2 180 rfl rfl
theorem wd_280 : (.methodLink RX7 226 yX7_about : Cond) ∈ AW := aw3 39 rfl rfl
theorem wd_281 : (.instanceMethod yX7_about : Cond) ∈ AW := aw2 178 rfl rfl
theorem wd_282 : (.selects RX7 yX7_about yX7_about : Cond) ∈ AW := aw2 179 rfl rfl
theorem wd_283 : (.code yX6_mixInto cX6_mixInto 5 (some .long) : Cond) ∈ AW := aw3 43 rfl rfl
theorem wd_284 : (.methodLink RX7 229 yX6_mixInto : Cond) ∈ AW := aw3 40 rfl rfl
theorem wd_285 : (.instanceMethod yX6_mixInto : Cond) ∈ AW := aw3 41 rfl rfl
theorem wd_286 : (.selects RX6 yX6_mixInto yX6_mixInto : Cond) ∈ AW := aw3 42 rfl rfl
theorem wd_287 : (.code yX2_empty cX2_empty 1 none : Cond) ∈ AW := aw2 133 rfl rfl
theorem wd_288 : (.methodLink RX7 242 yX2_empty : Cond) ∈ AW := aw2 130 rfl rfl
theorem wd_289 : (.instanceMethod yX2_empty : Cond) ∈ AW := aw2 131 rfl rfl
theorem wd_290 : (.selects RX2 yX2_empty yX2_empty : Cond) ∈ AW := aw2 132 rfl rfl
theorem wd_291 : (.code yX7_isCalledFor cX7_isCalledFor 5 (some .boolean) : Cond) ∈ AW := aw2 120 rfl rfl
theorem wd_292 : (.methodLink RX7 245 yX7_isCalledFor : Cond) ∈ AW := aw2 117 rfl rfl
theorem wd_293 : (.instanceMethod yX7_isCalledFor : Cond) ∈ AW := aw2 119 rfl rfl
theorem wd_294 : (.selects RX7 yX7_isCalledFor yX7_isCalledFor : Cond) ∈ AW := aws 2 rfl rfl
theorem wd_295 : (.code yX8_in cX8_in 3 (some .boolean) : Cond) ∈ AW := aw3 230 rfl rfl
theorem wd_296 : (.initialized RX8 : Cond) ∈ AW := aw1 10 rfl rfl
theorem wd_297 : (.methodLink RX8 123 yX8_in : Cond) ∈ AW := aw3 228 rfl rfl
theorem wd_298 : (.static yX8_in : Cond) ∈ AW := aw3 229 rfl rfl
theorem wd_299 : (.code yX8_tap cX8_tap 1 (some .int) : Cond) ∈ AW := aw4 35 rfl rfl
theorem wd_300 : (.methodLink RX8 137 yX8_tap : Cond) ∈ AW := aw4 32 rfl rfl
theorem wd_301 : (.instanceMethod yX8_tap : Cond) ∈ AW := aw4 33 rfl rfl
theorem wd_302 : (.selects RX8 yX8_tap yX8_tap : Cond) ∈ AW := aw4 34 rfl rfl
theorem wd_303 : (.code yX8_act cX8_act 3 none : Cond) ∈ AW := aw4 31 rfl rfl
theorem wd_304 : (.methodLink RX8 159 yX8_act : Cond) ∈ AW := aw4 28 rfl rfl
theorem wd_305 : (.instanceMethod yX8_act : Cond) ∈ AW := aw4 30 rfl rfl
theorem wd_306 : (.selects RX8 yX8_act yX8_act : Cond) ∈ AW := aws 10 rfl rfl
theorem wd_307 : (.code yX8_comesDown cX8_comesDown 2 none : Cond) ∈ AW := aw4 39 rfl rfl
theorem wd_308 : (.methodLink RX8 166 yX8_comesDown : Cond) ∈ AW := aw4 36 rfl rfl
theorem wd_309 : (.instanceMethod yX8_comesDown : Cond) ∈ AW := aw4 38 rfl rfl
theorem wd_310 : (.selects RX8 yX8_comesDown yX8_comesDown : Cond) ∈ AW := aws 11 rfl rfl
theorem wd_311 : (.code yX8_see cX8_see 3 none : Cond) ∈ AW := aw4 43 rfl rfl
theorem wd_312 : (.methodLink RX8 182 yX8_see : Cond) ∈ AW := aw4 40 rfl rfl
theorem wd_313 : (.instanceMethod yX8_see : Cond) ∈ AW := aw4 42 rfl rfl
theorem wd_314 : (.selects RX8 yX8_see yX8_see : Cond) ∈ AW := aws 12 rfl rfl
theorem wd_315 : (.code yX8_oneTick cX8_oneTick 5 none : Cond) ∈ AW := aw4 27 rfl rfl
theorem wd_316 : (.methodLink RX8 186 yX8_oneTick : Cond) ∈ AW := aw4 24 rfl rfl
theorem wd_317 : (.instanceMethod yX8_oneTick : Cond) ∈ AW := aw4 26 rfl rfl
theorem wd_318 : (.selects RX8 yX8_oneTick yX8_oneTick : Cond) ∈ AW := aws 9 rfl rfl
theorem wd_319 : (.code yX8_digit cX8_digit 5 (some .int) : Cond) ∈ AW := aw4 88 rfl rfl
theorem wd_320 : (.methodLink RX8 198 yX8_digit : Cond) ∈ AW := aw4 85 rfl rfl
theorem wd_321 : (.instanceMethod yX8_digit : Cond) ∈ AW := aw4 87 rfl rfl
theorem wd_322 : (.selects RX8 yX8_digit yX8_digit : Cond) ∈ AW := aws 15 rfl rfl
theorem wd_323 : (.code yX8_payOf cX8_payOf 6 (some .int) : Cond) ∈ AW := aw4 84 rfl rfl
theorem wd_324 : (.methodLink RX8 202 yX8_payOf : Cond) ∈ AW := aw4 81 rfl rfl
theorem wd_325 : (.instanceMethod yX8_payOf : Cond) ∈ AW := aw4 83 rfl rfl
theorem wd_326 : (.selects RX8 yX8_payOf yX8_payOf : Cond) ∈ AW := aws 14 rfl rfl
theorem wd_327 : (.code yX8_findSale cX8_findSale 5 (some .int) : Cond) ∈ AW := aw4 80 rfl rfl
theorem wd_328 : (.methodLink RX8 209 yX8_findSale : Cond) ∈ AW := aw4 77 rfl rfl
theorem wd_329 : (.instanceMethod yX8_findSale : Cond) ∈ AW := aw4 79 rfl rfl
theorem wd_330 : (.selects RX8 yX8_findSale yX8_findSale : Cond) ∈ AW := aws 13 rfl rfl
theorem wd_331 : (.code yX8_ironOf cX8_ironOf 14 (some .int) : Cond) ∈ AW := aw4 108 rfl rfl
theorem wd_332 : (.methodLink RX8 215 yX8_ironOf : Cond) ∈ AW := aw4 105 rfl rfl
theorem wd_333 : (.instanceMethod yX8_ironOf : Cond) ∈ AW := aw4 107 rfl rfl
theorem wd_334 : (.selects RX8 yX8_ironOf yX8_ironOf : Cond) ∈ AW := aws 16 rfl rfl
theorem wd_335 : (.code yX8_count cX8_count 4 (some .int) : Cond) ∈ AW := aw4 116 rfl rfl
theorem wd_336 : (.methodLink RX8 226 yX8_count : Cond) ∈ AW := aw4 123 rfl rfl
theorem wd_337 : (.instanceMethod yX8_count : Cond) ∈ AW := aw4 114 rfl rfl
theorem wd_338 : (.selects RX8 yX8_count yX8_count : Cond) ∈ AW := aw4 115 rfl rfl
theorem wd_339 : (.code yX8_about cX8_about 2 (some .int) : Cond) ∈ AW := aw4 48 rfl rfl
theorem wd_340 : (.methodLink RX8 229 yX8_about : Cond) ∈ AW := aw4 124 rfl rfl
theorem wd_341 : (.instanceMethod yX8_about : Cond) ∈ AW := aw4 46 rfl rfl
theorem wd_342 : (.selects RX8 yX8_about yX8_about : Cond) ∈ AW := aw4 47 rfl rfl
theorem wd_343 : (.code yX8_chargeAt cX8_chargeAt 3 (some .int) : Cond) ∈ AW := aw4 6 rfl rfl
theorem wd_344 : (.methodLink RX8 232 yX8_chargeAt : Cond) ∈ AW := aw4 125 rfl rfl
theorem wd_345 : (.instanceMethod yX8_chargeAt : Cond) ∈ AW := aw4 4 rfl rfl
theorem wd_346 : (.selects RX8 yX8_chargeAt yX8_chargeAt : Cond) ∈ AW := aw4 5 rfl rfl
theorem wd_347 : (.code yX8_pig cX8_pig 3 (some .int) : Cond) ∈ AW := aw4 52 rfl rfl
theorem wd_348 : (.methodLink RX8 235 yX8_pig : Cond) ∈ AW := aw4 126 rfl rfl
theorem wd_349 : (.instanceMethod yX8_pig : Cond) ∈ AW := aw4 50 rfl rfl
theorem wd_350 : (.selects RX8 yX8_pig yX8_pig : Cond) ∈ AW := aw4 51 rfl rfl
theorem wd_351 : (.code yX7_init cX7_init 2 none : Cond) ∈ AW := aw1 15 rfl rfl
theorem wd_352 : (.methodLink RL 9 yX7_init : Cond) ∈ AW := aw1 13 rfl rfl
theorem wd_353 : (.instanceMethod yX7_init : Cond) ∈ AW := aw1 14 rfl rfl
theorem wd_354 : (.code yX8_init cX8_init 2 none : Cond) ∈ AW := aw3 49 rfl rfl
theorem wd_355 : (.methodLink RL 12 yX8_init : Cond) ∈ AW := aw3 47 rfl rfl
theorem wd_356 : (.instanceMethod yX8_init : Cond) ∈ AW := aw3 48 rfl rfl
theorem wd_357 : (.code yX7_buy cX7_buy 3 (some .int) : Cond) ∈ AW := aw2 53 rfl rfl
theorem wd_358 : (.methodLink RL 13 yX7_buy : Cond) ∈ AW := aw2 50 rfl rfl
theorem wd_359 : (.instanceMethod yX7_buy : Cond) ∈ AW := aw2 51 rfl rfl
theorem wd_360 : (.selects RX7 yX7_buy yX7_buy : Cond) ∈ AW := aw2 52 rfl rfl
theorem wd_361 : (.code yX8_buy cX8_buy 3 (some .int) : Cond) ∈ AW := aw3 227 rfl rfl
theorem wd_362 : (.methodLink RL 17 yX8_buy : Cond) ∈ AW := aw3 224 rfl rfl
theorem wd_363 : (.instanceMethod yX8_buy : Cond) ∈ AW := aw3 225 rfl rfl
theorem wd_364 : (.selects RX8 yX8_buy yX8_buy : Cond) ∈ AW := aw3 226 rfl rfl
theorem wd_365 : (.code yX7_rich cX7_rich 4 (some .int) : Cond) ∈ AW := aw2 60 rfl rfl
theorem wd_366 : (.methodLink RL 18 yX7_rich : Cond) ∈ AW := aw2 57 rfl rfl
theorem wd_367 : (.instanceMethod yX7_rich : Cond) ∈ AW := aw2 58 rfl rfl
theorem wd_368 : (.selects RX7 yX7_rich yX7_rich : Cond) ∈ AW := aw2 59 rfl rfl
theorem wd_369 : (.code yX8_rich cX8_rich 4 (some .int) : Cond) ∈ AW := aw3 238 rfl rfl
theorem wd_370 : (.methodLink RL 21 yX8_rich : Cond) ∈ AW := aw3 235 rfl rfl
theorem wd_371 : (.instanceMethod yX8_rich : Cond) ∈ AW := aw3 236 rfl rfl
theorem wd_372 : (.selects RX8 yX8_rich yX8_rich : Cond) ∈ AW := aw3 237 rfl rfl
theorem wd_373 : (.code yX7_charge cX7_charge 6 (some .int) : Cond) ∈ AW := aw2 64 rfl rfl
theorem wd_374 : (.methodLink RL 22 yX7_charge : Cond) ∈ AW := aw2 61 rfl rfl
theorem wd_375 : (.instanceMethod yX7_charge : Cond) ∈ AW := aw2 62 rfl rfl
theorem wd_376 : (.selects RX7 yX7_charge yX7_charge : Cond) ∈ AW := aw2 63 rfl rfl
theorem wd_377 : (.code yX8_charge cX8_charge 5 (some .int) : Cond) ∈ AW := aw4 2 rfl rfl
theorem wd_378 : (.methodLink RL 26 yX8_charge : Cond) ∈ AW := aw3 239 rfl rfl
theorem wd_379 : (.instanceMethod yX8_charge : Cond) ∈ AW := aw4 0 rfl rfl
theorem wd_380 : (.selects RX8 yX8_charge yX8_charge : Cond) ∈ AW := aw4 1 rfl rfl
theorem wd_381 : (.code yX7_chargeAt cX7_chargeAt 3 (some .int) : Cond) ∈ AW := aw2 86 rfl rfl
theorem wd_382 : (.methodLink RL 27 yX7_chargeAt : Cond) ∈ AW := aw2 83 rfl rfl
theorem wd_383 : (.instanceMethod yX7_chargeAt : Cond) ∈ AW := aw2 84 rfl rfl
theorem wd_384 : (.selects RX7 yX7_chargeAt yX7_chargeAt : Cond) ∈ AW := aw2 85 rfl rfl
theorem wd_385 : (.methodLink RL 30 yX8_chargeAt : Cond) ∈ AW := aw4 3 rfl rfl
theorem wd_386 : (.code yX7_when cX7_when 3 (some .int) : Cond) ∈ AW := aw2 94 rfl rfl
theorem wd_387 : (.methodLink RL 31 yX7_when : Cond) ∈ AW := aw2 91 rfl rfl
theorem wd_388 : (.instanceMethod yX7_when : Cond) ∈ AW := aw2 92 rfl rfl
theorem wd_389 : (.selects RX7 yX7_when yX7_when : Cond) ∈ AW := aw2 93 rfl rfl
theorem wd_390 : (.code yX8_when cX8_when 4 (some .int) : Cond) ∈ AW := aw4 10 rfl rfl
theorem wd_391 : (.methodLink RL 35 yX8_when : Cond) ∈ AW := aw4 7 rfl rfl
theorem wd_392 : (.instanceMethod yX8_when : Cond) ∈ AW := aw4 8 rfl rfl
theorem wd_393 : (.selects RX8 yX8_when yX8_when : Cond) ∈ AW := aw4 9 rfl rfl
theorem wd_394 : (.code yX7_blast cX7_blast 3 (some .int) : Cond) ∈ AW := aw2 103 rfl rfl
theorem wd_395 : (.methodLink RL 36 yX7_blast : Cond) ∈ AW := aw2 100 rfl rfl
theorem wd_396 : (.instanceMethod yX7_blast : Cond) ∈ AW := aw2 101 rfl rfl
theorem wd_397 : (.selects RX7 yX7_blast yX7_blast : Cond) ∈ AW := aw2 102 rfl rfl
theorem wd_398 : (.code yX8_blast cX8_blast 3 (some .int) : Cond) ∈ AW := aw4 14 rfl rfl
theorem wd_399 : (.methodLink RL 39 yX8_blast : Cond) ∈ AW := aw4 11 rfl rfl
theorem wd_400 : (.instanceMethod yX8_blast : Cond) ∈ AW := aw4 12 rfl rfl
theorem wd_401 : (.selects RX8 yX8_blast yX8_blast : Cond) ∈ AW := aw4 13 rfl rfl
theorem wd_402 : (.code yX7_hearth cX7_hearth 3 (some .int) : Cond) ∈ AW := aw2 107 rfl rfl
theorem wd_403 : (.methodLink RL 40 yX7_hearth : Cond) ∈ AW := aw2 104 rfl rfl
theorem wd_404 : (.instanceMethod yX7_hearth : Cond) ∈ AW := aw2 105 rfl rfl
theorem wd_405 : (.selects RX7 yX7_hearth yX7_hearth : Cond) ∈ AW := aw2 106 rfl rfl
theorem wd_406 : (.code yX8_hearth cX8_hearth 3 (some .int) : Cond) ∈ AW := aw4 18 rfl rfl
theorem wd_407 : (.methodLink RL 43 yX8_hearth : Cond) ∈ AW := aw4 15 rfl rfl
theorem wd_408 : (.instanceMethod yX8_hearth : Cond) ∈ AW := aw4 16 rfl rfl
theorem wd_409 : (.selects RX8 yX8_hearth yX8_hearth : Cond) ∈ AW := aw4 17 rfl rfl
theorem wd_410 : (.code yX7_tick cX7_tick 4 (some .int) : Cond) ∈ AW := aw2 112 rfl rfl
theorem wd_411 : (.methodLink RL 44 yX7_tick : Cond) ∈ AW := aw2 109 rfl rfl
theorem wd_412 : (.instanceMethod yX7_tick : Cond) ∈ AW := aw2 110 rfl rfl
theorem wd_413 : (.selects RX7 yX7_tick yX7_tick : Cond) ∈ AW := aw2 111 rfl rfl
theorem wd_414 : (.code yX8_tick cX8_tick 3 (some .int) : Cond) ∈ AW := aw4 23 rfl rfl
theorem wd_415 : (.methodLink RL 47 yX8_tick : Cond) ∈ AW := aw4 20 rfl rfl
theorem wd_416 : (.instanceMethod yX8_tick : Cond) ∈ AW := aw4 21 rfl rfl
theorem wd_417 : (.selects RX8 yX8_tick yX8_tick : Cond) ∈ AW := aw4 22 rfl rfl
theorem wd_418 : (.code yX7_tap cX7_tap 1 (some .int) : Cond) ∈ AW := aw2 176 rfl rfl
theorem wd_419 : (.methodLink RL 48 yX7_tap : Cond) ∈ AW := aw2 173 rfl rfl
theorem wd_420 : (.instanceMethod yX7_tap : Cond) ∈ AW := aw2 174 rfl rfl
theorem wd_421 : (.selects RX7 yX7_tap yX7_tap : Cond) ∈ AW := aw2 175 rfl rfl
theorem wd_422 : (.methodLink RL 52 yX8_tap : Cond) ∈ AW := aw4 44 rfl rfl
theorem wd_423 : (.methodLink RL 53 yX7_about : Cond) ∈ AW := aw2 177 rfl rfl
theorem wd_424 : (.methodLink RL 56 yX8_about : Cond) ∈ AW := aw4 45 rfl rfl
theorem wd_425 : (.code yX7_store cX7_store 2 (some .int) : Cond) ∈ AW := aw2 184 rfl rfl
theorem wd_426 : (.methodLink RL 57 yX7_store : Cond) ∈ AW := aw2 181 rfl rfl
theorem wd_427 : (.instanceMethod yX7_store : Cond) ∈ AW := aw2 182 rfl rfl
theorem wd_428 : (.selects RX7 yX7_store yX7_store : Cond) ∈ AW := aw2 183 rfl rfl
theorem wd_429 : (.code yX8_store cX8_store 2 (some .int) : Cond) ∈ AW := aw3 234 rfl rfl
theorem wd_430 : (.methodLink RL 60 yX8_store : Cond) ∈ AW := aw3 231 rfl rfl
theorem wd_431 : (.instanceMethod yX8_store : Cond) ∈ AW := aw3 232 rfl rfl
theorem wd_432 : (.selects RX8 yX8_store yX8_store : Cond) ∈ AW := aw3 233 rfl rfl
theorem wd_433 : (.code yX7_pig cX7_pig 3 (some .int) : Cond) ∈ AW := aw2 188 rfl rfl
theorem wd_434 : (.methodLink RL 61 yX7_pig : Cond) ∈ AW := aw2 185 rfl rfl
theorem wd_435 : (.instanceMethod yX7_pig : Cond) ∈ AW := aw2 186 rfl rfl
theorem wd_436 : (.selects RX7 yX7_pig yX7_pig : Cond) ∈ AW := aw2 187 rfl rfl
theorem wd_437 : (.methodLink RL 64 yX8_pig : Cond) ∈ AW := aw4 49 rfl rfl
theorem wd_438 : (.code yX7_sign cX7_sign 2 (some .int) : Cond) ∈ AW := aw2 192 rfl rfl
theorem wd_439 : (.methodLink RL 65 yX7_sign : Cond) ∈ AW := aw2 189 rfl rfl
theorem wd_440 : (.instanceMethod yX7_sign : Cond) ∈ AW := aw2 190 rfl rfl
theorem wd_441 : (.selects RX7 yX7_sign yX7_sign : Cond) ∈ AW := aw2 191 rfl rfl
theorem wd_442 : (.code yX8_sign cX8_sign 2 (some .int) : Cond) ∈ AW := aw4 56 rfl rfl
theorem wd_443 : (.methodLink RL 68 yX8_sign : Cond) ∈ AW := aw4 53 rfl rfl
theorem wd_444 : (.instanceMethod yX8_sign : Cond) ∈ AW := aw4 54 rfl rfl
theorem wd_445 : (.selects RX8 yX8_sign yX8_sign : Cond) ∈ AW := aw4 55 rfl rfl
theorem wd_446 : (.code yX7_lose cX7_lose 3 (some .int) : Cond) ∈ AW := aw2 196 rfl rfl
theorem wd_447 : (.methodLink RL 69 yX7_lose : Cond) ∈ AW := aw2 193 rfl rfl
theorem wd_448 : (.instanceMethod yX7_lose : Cond) ∈ AW := aw2 194 rfl rfl
theorem wd_449 : (.selects RX7 yX7_lose yX7_lose : Cond) ∈ AW := aw2 195 rfl rfl
theorem wd_450 : (.code yX8_lose cX8_lose 3 (some .int) : Cond) ∈ AW := aw4 60 rfl rfl
theorem wd_451 : (.methodLink RL 72 yX8_lose : Cond) ∈ AW := aw4 57 rfl rfl
theorem wd_452 : (.instanceMethod yX8_lose : Cond) ∈ AW := aw4 58 rfl rfl
theorem wd_453 : (.selects RX8 yX8_lose yX8_lose : Cond) ∈ AW := aw4 59 rfl rfl
theorem wd_454 : (.code yX7_rule cX7_rule 6 (some .int) : Cond) ∈ AW := aw2 200 rfl rfl
theorem wd_455 : (.methodLink RL 73 yX7_rule : Cond) ∈ AW := aw2 197 rfl rfl
theorem wd_456 : (.instanceMethod yX7_rule : Cond) ∈ AW := aw2 198 rfl rfl
theorem wd_457 : (.selects RX7 yX7_rule yX7_rule : Cond) ∈ AW := aw2 199 rfl rfl
theorem wd_458 : (.code yX8_rule cX8_rule 5 (some .int) : Cond) ∈ AW := aw4 64 rfl rfl
theorem wd_459 : (.methodLink RL 77 yX8_rule : Cond) ∈ AW := aw4 61 rfl rfl
theorem wd_460 : (.instanceMethod yX8_rule : Cond) ∈ AW := aw4 62 rfl rfl
theorem wd_461 : (.selects RX8 yX8_rule yX8_rule : Cond) ∈ AW := aw4 63 rfl rfl
theorem wd_462 : (.code yX7_unrule cX7_unrule 2 (some .int) : Cond) ∈ AW := aw2 204 rfl rfl
theorem wd_463 : (.methodLink RL 78 yX7_unrule : Cond) ∈ AW := aw2 201 rfl rfl
theorem wd_464 : (.instanceMethod yX7_unrule : Cond) ∈ AW := aw2 202 rfl rfl
theorem wd_465 : (.selects RX7 yX7_unrule yX7_unrule : Cond) ∈ AW := aw2 203 rfl rfl
theorem wd_466 : (.code yX8_unrule cX8_unrule 2 (some .int) : Cond) ∈ AW := aw4 68 rfl rfl
theorem wd_467 : (.methodLink RL 81 yX8_unrule : Cond) ∈ AW := aw4 65 rfl rfl
theorem wd_468 : (.instanceMethod yX8_unrule : Cond) ∈ AW := aw4 66 rfl rfl
theorem wd_469 : (.selects RX8 yX8_unrule yX8_unrule : Cond) ∈ AW := aw4 67 rfl rfl
theorem wd_470 : (.code yX7_forge cX7_forge 5 (some .int) : Cond) ∈ AW := aw2 208 rfl rfl
theorem wd_471 : (.methodLink RL 82 yX7_forge : Cond) ∈ AW := aw2 205 rfl rfl
theorem wd_472 : (.instanceMethod yX7_forge : Cond) ∈ AW := aw2 206 rfl rfl
theorem wd_473 : (.selects RX7 yX7_forge yX7_forge : Cond) ∈ AW := aw2 207 rfl rfl
theorem wd_474 : (.code yX8_forge cX8_forge 4 (some .int) : Cond) ∈ AW := aw4 72 rfl rfl
theorem wd_475 : (.methodLink RL 86 yX8_forge : Cond) ∈ AW := aw4 69 rfl rfl
theorem wd_476 : (.instanceMethod yX8_forge : Cond) ∈ AW := aw4 70 rfl rfl
theorem wd_477 : (.selects RX8 yX8_forge yX8_forge : Cond) ∈ AW := aw4 71 rfl rfl
theorem wd_478 : (.code yX7_sale cX7_sale 1 (some .int) : Cond) ∈ AW := aw2 212 rfl rfl
theorem wd_479 : (.methodLink RL 87 yX7_sale : Cond) ∈ AW := aw2 209 rfl rfl
theorem wd_480 : (.instanceMethod yX7_sale : Cond) ∈ AW := aw2 210 rfl rfl
theorem wd_481 : (.selects RX7 yX7_sale yX7_sale : Cond) ∈ AW := aw2 211 rfl rfl
theorem wd_482 : (.code yX8_sale cX8_sale 1 (some .int) : Cond) ∈ AW := aw4 76 rfl rfl
theorem wd_483 : (.methodLink RL 90 yX8_sale : Cond) ∈ AW := aw4 73 rfl rfl
theorem wd_484 : (.instanceMethod yX8_sale : Cond) ∈ AW := aw4 74 rfl rfl
theorem wd_485 : (.selects RX8 yX8_sale yX8_sale : Cond) ∈ AW := aw4 75 rfl rfl
theorem wd_486 : (.code yX7_sell cX7_sell 5 (some .int) : Cond) ∈ AW := aw2 237 rfl rfl
theorem wd_487 : (.methodLink RL 91 yX7_sell : Cond) ∈ AW := aw2 234 rfl rfl
theorem wd_488 : (.instanceMethod yX7_sell : Cond) ∈ AW := aw2 235 rfl rfl
theorem wd_489 : (.selects RX7 yX7_sell yX7_sell : Cond) ∈ AW := aw2 236 rfl rfl
theorem wd_490 : (.code yX8_sell cX8_sell 5 (some .int) : Cond) ∈ AW := aw4 92 rfl rfl
theorem wd_491 : (.methodLink RL 94 yX8_sell : Cond) ∈ AW := aw4 89 rfl rfl
theorem wd_492 : (.instanceMethod yX8_sell : Cond) ∈ AW := aw4 90 rfl rfl
theorem wd_493 : (.selects RX8 yX8_sell yX8_sell : Cond) ∈ AW := aw4 91 rfl rfl
theorem wd_494 : (.code yX7_month cX7_month 4 (some .int) : Cond) ∈ AW := aw3 1 rfl rfl
theorem wd_495 : (.methodLink RL 95 yX7_month : Cond) ∈ AW := aw2 238 rfl rfl
theorem wd_496 : (.instanceMethod yX7_month : Cond) ∈ AW := aw2 239 rfl rfl
theorem wd_497 : (.selects RX7 yX7_month yX7_month : Cond) ∈ AW := aw3 0 rfl rfl
theorem wd_498 : (.code yX8_month cX8_month 4 (some .int) : Cond) ∈ AW := aw4 96 rfl rfl
theorem wd_499 : (.methodLink RL 98 yX8_month : Cond) ∈ AW := aw4 93 rfl rfl
theorem wd_500 : (.instanceMethod yX8_month : Cond) ∈ AW := aw4 94 rfl rfl
theorem wd_501 : (.selects RX8 yX8_month yX8_month : Cond) ∈ AW := aw4 95 rfl rfl
theorem wd_502 : (.code yX7_pace cX7_pace 5 (some .int) : Cond) ∈ AW := aw3 5 rfl rfl
theorem wd_503 : (.methodLink RL 99 yX7_pace : Cond) ∈ AW := aw3 2 rfl rfl
theorem wd_504 : (.instanceMethod yX7_pace : Cond) ∈ AW := aw3 3 rfl rfl
theorem wd_505 : (.selects RX7 yX7_pace yX7_pace : Cond) ∈ AW := aw3 4 rfl rfl
theorem wd_506 : (.code yX8_pace cX8_pace 5 (some .int) : Cond) ∈ AW := aw4 100 rfl rfl
theorem wd_507 : (.methodLink RL 102 yX8_pace : Cond) ∈ AW := aw4 97 rfl rfl
theorem wd_508 : (.instanceMethod yX8_pace : Cond) ∈ AW := aw4 98 rfl rfl
theorem wd_509 : (.selects RX8 yX8_pace yX8_pace : Cond) ∈ AW := aw4 99 rfl rfl
theorem wd_510 : (.code yX7_plan cX7_plan 5 (some .int) : Cond) ∈ AW := aw3 9 rfl rfl
theorem wd_511 : (.methodLink RL 103 yX7_plan : Cond) ∈ AW := aw3 6 rfl rfl
theorem wd_512 : (.instanceMethod yX7_plan : Cond) ∈ AW := aw3 7 rfl rfl
theorem wd_513 : (.selects RX7 yX7_plan yX7_plan : Cond) ∈ AW := aw3 8 rfl rfl
theorem wd_514 : (.code yX8_plan cX8_plan 10 (some .int) : Cond) ∈ AW := aw4 104 rfl rfl
theorem wd_515 : (.methodLink RL 106 yX8_plan : Cond) ∈ AW := aw4 101 rfl rfl
theorem wd_516 : (.instanceMethod yX8_plan : Cond) ∈ AW := aw4 102 rfl rfl
theorem wd_517 : (.selects RX8 yX8_plan yX8_plan : Cond) ∈ AW := aw4 103 rfl rfl
theorem wd_518 : (.code yX7_paceAt cX7_paceAt 2 (some .int) : Cond) ∈ AW := aw3 27 rfl rfl
theorem wd_519 : (.methodLink RL 107 yX7_paceAt : Cond) ∈ AW := aw3 24 rfl rfl
theorem wd_520 : (.instanceMethod yX7_paceAt : Cond) ∈ AW := aw3 25 rfl rfl
theorem wd_521 : (.selects RX7 yX7_paceAt yX7_paceAt : Cond) ∈ AW := aw3 26 rfl rfl
theorem wd_522 : (.code yX8_paceAt cX8_paceAt 2 (some .int) : Cond) ∈ AW := aw4 112 rfl rfl
theorem wd_523 : (.methodLink RL 110 yX8_paceAt : Cond) ∈ AW := aw4 109 rfl rfl
theorem wd_524 : (.instanceMethod yX8_paceAt : Cond) ∈ AW := aw4 110 rfl rfl
theorem wd_525 : (.selects RX8 yX8_paceAt yX8_paceAt : Cond) ∈ AW := aw4 111 rfl rfl
theorem wd_526 : (.methodLink RL 111 yX7_count : Cond) ∈ AW := aw3 28 rfl rfl
theorem wd_527 : (.methodLink RL 114 yX8_count : Cond) ∈ AW := aw4 113 rfl rfl
theorem wd_528 : (.code yX7_digest cX7_digest 4 (some .long) : Cond) ∈ AW := aw3 35 rfl rfl
theorem wd_529 : (.methodLink RL 115 yX7_digest : Cond) ∈ AW := aw3 32 rfl rfl
theorem wd_530 : (.instanceMethod yX7_digest : Cond) ∈ AW := aw3 33 rfl rfl
theorem wd_531 : (.selects RX7 yX7_digest yX7_digest : Cond) ∈ AW := aw3 34 rfl rfl
theorem wd_532 : (.code yX8_digest cX8_digest 5 (some .long) : Cond) ∈ AW := aw4 120 rfl rfl
theorem wd_533 : (.methodLink RL 119 yX8_digest : Cond) ∈ AW := aw4 117 rfl rfl
theorem wd_534 : (.instanceMethod yX8_digest : Cond) ∈ AW := aw4 118 rfl rfl
theorem wd_535 : (.selects RX8 yX8_digest yX8_digest : Cond) ∈ AW := aw4 119 rfl rfl
theorem wd_536 : (.methodLink RX0 3 Lib.objectInit : Cond) ∈ AW := aw1 24 rfl rfl
theorem wd_537 : (.instanceMethod Lib.objectInit : Cond) ∈ AW := aw1 17 rfl rfl
theorem wd_538 : (.code Lib.objectInit ⟨#[0xb1]⟩ 1 none : Cond) ∈ AW := aw1 18 rfl rfl
theorem wd_539 : (.classLink RX0 9 RX6 : Cond) ∈ AW := aw1 25 rfl rfl
theorem wd_540 : (.instantiable RX6 4 : Cond) ∈ AW := aw1 26 rfl rfl
theorem wd_541 : (.methodLink RX1 3 Lib.objectInit : Cond) ∈ AW := aw1 102 rfl rfl
theorem wd_542 : (.methodLink RX2 3 Lib.objectInit : Cond) ∈ AW := aw1 67 rfl rfl
theorem wd_543 : (.methodLink RX3 3 Lib.objectInit : Cond) ∈ AW := aw1 205 rfl rfl
theorem wd_544 : (.methodLink RX4 3 Lib.objectInit : Cond) ∈ AW := aw1 166 rfl rfl
theorem wd_545 : (.methodLink RX5 3 Lib.objectInit : Cond) ∈ AW := aw1 151 rfl rfl
theorem wd_546 : (.methodLink RX6 3 Lib.objectInit : Cond) ∈ AW := aw1 30 rfl rfl
theorem wd_547 : (.methodLink RX6 15 Lib.Math.max.name : Cond) ∈ AW := aw1 31 rfl rfl
theorem wd_548 : (.methodLink RX7 1 Lib.objectInit : Cond) ∈ AW := aw1 16 rfl rfl
theorem wd_549 : (.classLink RX7 16 RX0 : Cond) ∈ AW := aw1 19 rfl rfl
theorem wd_550 : (.instantiable RX0 2 : Cond) ∈ AW := aw1 20 rfl rfl
theorem wd_551 : (.classLink RX7 23 RX2 : Cond) ∈ AW := aw1 62 rfl rfl
theorem wd_552 : (.instantiable RX2 7 : Cond) ∈ AW := aw1 63 rfl rfl
theorem wd_553 : (.classLink RX7 30 RX1 : Cond) ∈ AW := aw1 97 rfl rfl
theorem wd_554 : (.instantiable RX1 10 : Cond) ∈ AW := aw1 98 rfl rfl
theorem wd_555 : (.classLink RX7 37 RX6 : Cond) ∈ AW := aw1 144 rfl rfl
theorem wd_556 : (.classLink RX7 46 RX5 : Cond) ∈ AW := aw1 146 rfl rfl
theorem wd_557 : (.instantiable RX5 2 : Cond) ∈ AW := aw1 147 rfl rfl
theorem wd_558 : (.classLink RX7 59 RX4 : Cond) ∈ AW := aw1 161 rfl rfl
theorem wd_559 : (.instantiable RX4 9 : Cond) ∈ AW := aw1 162 rfl rfl
theorem wd_560 : (.classLink RX7 72 RX3 : Cond) ∈ AW := aw1 200 rfl rfl
theorem wd_561 : (.instantiable RX3 9 : Cond) ∈ AW := aw1 201 rfl rfl
theorem wd_562 : (.methodLink RX8 1 Lib.objectInit : Cond) ∈ AW := aw3 50 rfl rfl
theorem wd_563 : (.classLink RL 7 RX7 : Cond) ∈ AW := aw1 11 rfl rfl
theorem wd_564 : (.instantiable RX7 15 : Cond) ∈ AW := aw1 12 rfl rfl
theorem wd_565 : (.classLink RL 10 RX8 : Cond) ∈ AW := aw3 45 rfl rfl
theorem wd_566 : (.instantiable RX8 57 : Cond) ∈ AW := aw3 46 rfl rfl
theorem wd_567 : (.arrayClass .int : Cond) ∈ AW := aw1 50 rfl rfl
theorem wd_568 : (.arrayClass .boolean : Cond) ∈ AW := aw3 223 rfl rfl
theorem ul_X0_0 : u_lay RX0 TX0 0 ∈ AW := aw1 57 rfl rfl
theorem ul_X0_1 : u_lay RX0 TX0 1 ∈ AW := aw1 59 rfl rfl
theorem inA_0 : ∀ w ∈ u_ws RX0 TX0 2, w ∈ AW := by
  intro w h
  obtain ⟨k, hk, rfl⟩ := List.mem_map.mp h
  have hk := List.mem_range.mp hk
  exact (match k, hk with
  | 0, _ => ul_X0_0
  | 1, _ => ul_X0_1
  | k + 2, hk => absurd hk (by omega))
theorem inM_0 {c : Cond} : ∀ w ∈ u_ws RX0 TX0 2, w ∈ c :: AW := fun w h => List.mem_cons_of_mem _ (inA_0 w h)
theorem ul_X1_0 : u_lay RX1 TX1 0 ∈ AW := aw1 123 rfl rfl
theorem ul_X1_1 : u_lay RX1 TX1 1 ∈ AW := aw1 125 rfl rfl
theorem ul_X1_2 : u_lay RX1 TX1 2 ∈ AW := aw1 127 rfl rfl
theorem ul_X1_3 : u_lay RX1 TX1 3 ∈ AW := aw1 129 rfl rfl
theorem ul_X1_4 : u_lay RX1 TX1 4 ∈ AW := aw1 131 rfl rfl
theorem ul_X1_5 : u_lay RX1 TX1 5 ∈ AW := aw1 133 rfl rfl
theorem ul_X1_6 : u_lay RX1 TX1 6 ∈ AW := aw1 135 rfl rfl
theorem ul_X1_7 : u_lay RX1 TX1 7 ∈ AW := aw1 137 rfl rfl
theorem ul_X1_8 : u_lay RX1 TX1 8 ∈ AW := aw1 139 rfl rfl
theorem ul_X1_9 : u_lay RX1 TX1 9 ∈ AW := aw1 141 rfl rfl
theorem inA_1 : ∀ w ∈ u_ws RX1 TX1 10, w ∈ AW := by
  intro w h
  obtain ⟨k, hk, rfl⟩ := List.mem_map.mp h
  have hk := List.mem_range.mp hk
  exact (match k, hk with
  | 0, _ => ul_X1_0
  | 1, _ => ul_X1_1
  | 2, _ => ul_X1_2
  | 3, _ => ul_X1_3
  | 4, _ => ul_X1_4
  | 5, _ => ul_X1_5
  | 6, _ => ul_X1_6
  | 7, _ => ul_X1_7
  | 8, _ => ul_X1_8
  | 9, _ => ul_X1_9
  | k + 10, hk => absurd hk (by omega))
theorem inM_1 {c : Cond} : ∀ w ∈ u_ws RX1 TX1 10, w ∈ c :: AW := fun w h => List.mem_cons_of_mem _ (inA_1 w h)
theorem ul_X2_0 : u_lay RX2 TX2 0 ∈ AW := aw1 82 rfl rfl
theorem ul_X2_1 : u_lay RX2 TX2 1 ∈ AW := aw1 84 rfl rfl
theorem ul_X2_2 : u_lay RX2 TX2 2 ∈ AW := aw1 86 rfl rfl
theorem ul_X2_3 : u_lay RX2 TX2 3 ∈ AW := aw1 88 rfl rfl
theorem ul_X2_4 : u_lay RX2 TX2 4 ∈ AW := aw1 90 rfl rfl
theorem ul_X2_5 : u_lay RX2 TX2 5 ∈ AW := aw1 92 rfl rfl
theorem ul_X2_6 : u_lay RX2 TX2 6 ∈ AW := aw1 94 rfl rfl
theorem inA_2 : ∀ w ∈ u_ws RX2 TX2 7, w ∈ AW := by
  intro w h
  obtain ⟨k, hk, rfl⟩ := List.mem_map.mp h
  have hk := List.mem_range.mp hk
  exact (match k, hk with
  | 0, _ => ul_X2_0
  | 1, _ => ul_X2_1
  | 2, _ => ul_X2_2
  | 3, _ => ul_X2_3
  | 4, _ => ul_X2_4
  | 5, _ => ul_X2_5
  | 6, _ => ul_X2_6
  | k + 7, hk => absurd hk (by omega))
theorem inM_2 {c : Cond} : ∀ w ∈ u_ws RX2 TX2 7, w ∈ c :: AW := fun w h => List.mem_cons_of_mem _ (inA_2 w h)
theorem ul_X3_0 : u_lay RX3 TX3 0 ∈ AW := aw1 217 rfl rfl
theorem ul_X3_1 : u_lay RX3 TX3 1 ∈ AW := aw1 219 rfl rfl
theorem ul_X3_2 : u_lay RX3 TX3 2 ∈ AW := aw1 221 rfl rfl
theorem ul_X3_3 : u_lay RX3 TX3 3 ∈ AW := aw1 223 rfl rfl
theorem ul_X3_4 : u_lay RX3 TX3 4 ∈ AW := aw1 225 rfl rfl
theorem ul_X3_5 : u_lay RX3 TX3 5 ∈ AW := aw1 227 rfl rfl
theorem ul_X3_6 : u_lay RX3 TX3 6 ∈ AW := aw1 229 rfl rfl
theorem ul_X3_7 : u_lay RX3 TX3 7 ∈ AW := aw1 231 rfl rfl
theorem ul_X3_8 : u_lay RX3 TX3 8 ∈ AW := aw1 233 rfl rfl
theorem inA_3 : ∀ w ∈ u_ws RX3 TX3 9, w ∈ AW := by
  intro w h
  obtain ⟨k, hk, rfl⟩ := List.mem_map.mp h
  have hk := List.mem_range.mp hk
  exact (match k, hk with
  | 0, _ => ul_X3_0
  | 1, _ => ul_X3_1
  | 2, _ => ul_X3_2
  | 3, _ => ul_X3_3
  | 4, _ => ul_X3_4
  | 5, _ => ul_X3_5
  | 6, _ => ul_X3_6
  | 7, _ => ul_X3_7
  | 8, _ => ul_X3_8
  | k + 9, hk => absurd hk (by omega))
theorem inM_3 {c : Cond} : ∀ w ∈ u_ws RX3 TX3 9, w ∈ c :: AW := fun w h => List.mem_cons_of_mem _ (inA_3 w h)
theorem ul_X4_0 : u_lay RX4 TX4 0 ∈ AW := aw1 181 rfl rfl
theorem ul_X4_1 : u_lay RX4 TX4 1 ∈ AW := aw1 183 rfl rfl
theorem ul_X4_2 : u_lay RX4 TX4 2 ∈ AW := aw1 185 rfl rfl
theorem ul_X4_3 : u_lay RX4 TX4 3 ∈ AW := aw1 187 rfl rfl
theorem ul_X4_4 : u_lay RX4 TX4 4 ∈ AW := aw1 189 rfl rfl
theorem ul_X4_5 : u_lay RX4 TX4 5 ∈ AW := aw1 191 rfl rfl
theorem ul_X4_6 : u_lay RX4 TX4 6 ∈ AW := aw1 193 rfl rfl
theorem ul_X4_7 : u_lay RX4 TX4 7 ∈ AW := aw1 195 rfl rfl
theorem ul_X4_8 : u_lay RX4 TX4 8 ∈ AW := aw1 197 rfl rfl
theorem inA_4 : ∀ w ∈ u_ws RX4 TX4 9, w ∈ AW := by
  intro w h
  obtain ⟨k, hk, rfl⟩ := List.mem_map.mp h
  have hk := List.mem_range.mp hk
  exact (match k, hk with
  | 0, _ => ul_X4_0
  | 1, _ => ul_X4_1
  | 2, _ => ul_X4_2
  | 3, _ => ul_X4_3
  | 4, _ => ul_X4_4
  | 5, _ => ul_X4_5
  | 6, _ => ul_X4_6
  | 7, _ => ul_X4_7
  | 8, _ => ul_X4_8
  | k + 9, hk => absurd hk (by omega))
theorem inM_4 {c : Cond} : ∀ w ∈ u_ws RX4 TX4 9, w ∈ c :: AW := fun w h => List.mem_cons_of_mem _ (inA_4 w h)
theorem ul_X5_0 : u_lay RX5 TX5 0 ∈ AW := aw1 156 rfl rfl
theorem ul_X5_1 : u_lay RX5 TX5 1 ∈ AW := aw1 158 rfl rfl
theorem inA_5 : ∀ w ∈ u_ws RX5 TX5 2, w ∈ AW := by
  intro w h
  obtain ⟨k, hk, rfl⟩ := List.mem_map.mp h
  have hk := List.mem_range.mp hk
  exact (match k, hk with
  | 0, _ => ul_X5_0
  | 1, _ => ul_X5_1
  | k + 2, hk => absurd hk (by omega))
theorem inM_5 {c : Cond} : ∀ w ∈ u_ws RX5 TX5 2, w ∈ c :: AW := fun w h => List.mem_cons_of_mem _ (inA_5 w h)
theorem ul_X6_0 : u_lay RX6 TX6 0 ∈ AW := aw1 41 rfl rfl
theorem ul_X6_1 : u_lay RX6 TX6 1 ∈ AW := aw1 43 rfl rfl
theorem ul_X6_2 : u_lay RX6 TX6 2 ∈ AW := aw1 45 rfl rfl
theorem ul_X6_3 : u_lay RX6 TX6 3 ∈ AW := aw1 47 rfl rfl
theorem inA_6 : ∀ w ∈ u_ws RX6 TX6 4, w ∈ AW := by
  intro w h
  obtain ⟨k, hk, rfl⟩ := List.mem_map.mp h
  have hk := List.mem_range.mp hk
  exact (match k, hk with
  | 0, _ => ul_X6_0
  | 1, _ => ul_X6_1
  | 2, _ => ul_X6_2
  | 3, _ => ul_X6_3
  | k + 4, hk => absurd hk (by omega))
theorem inM_6 {c : Cond} : ∀ w ∈ u_ws RX6 TX6 4, w ∈ c :: AW := fun w h => List.mem_cons_of_mem _ (inA_6 w h)
theorem ul_X7_0 : u_lay RX7 TX7 0 ∈ AW := aw2 19 rfl rfl
theorem ul_X7_1 : u_lay RX7 TX7 1 ∈ AW := aw2 21 rfl rfl
theorem ul_X7_2 : u_lay RX7 TX7 2 ∈ AW := aw2 23 rfl rfl
theorem ul_X7_3 : u_lay RX7 TX7 3 ∈ AW := aw2 25 rfl rfl
theorem ul_X7_4 : u_lay RX7 TX7 4 ∈ AW := aw2 27 rfl rfl
theorem ul_X7_5 : u_lay RX7 TX7 5 ∈ AW := aw2 29 rfl rfl
theorem ul_X7_6 : u_lay RX7 TX7 6 ∈ AW := aw2 31 rfl rfl
theorem ul_X7_7 : u_lay RX7 TX7 7 ∈ AW := aw2 33 rfl rfl
theorem ul_X7_8 : u_lay RX7 TX7 8 ∈ AW := aw2 35 rfl rfl
theorem ul_X7_9 : u_lay RX7 TX7 9 ∈ AW := aw2 37 rfl rfl
theorem ul_X7_10 : u_lay RX7 TX7 10 ∈ AW := aw2 39 rfl rfl
theorem ul_X7_11 : u_lay RX7 TX7 11 ∈ AW := aw2 41 rfl rfl
theorem ul_X7_12 : u_lay RX7 TX7 12 ∈ AW := aw2 43 rfl rfl
theorem ul_X7_13 : u_lay RX7 TX7 13 ∈ AW := aw2 45 rfl rfl
theorem ul_X7_14 : u_lay RX7 TX7 14 ∈ AW := aw2 47 rfl rfl
theorem inA_7 : ∀ w ∈ u_ws RX7 TX7 15, w ∈ AW := by
  intro w h
  obtain ⟨k, hk, rfl⟩ := List.mem_map.mp h
  have hk := List.mem_range.mp hk
  exact (match k, hk with
  | 0, _ => ul_X7_0
  | 1, _ => ul_X7_1
  | 2, _ => ul_X7_2
  | 3, _ => ul_X7_3
  | 4, _ => ul_X7_4
  | 5, _ => ul_X7_5
  | 6, _ => ul_X7_6
  | 7, _ => ul_X7_7
  | 8, _ => ul_X7_8
  | 9, _ => ul_X7_9
  | 10, _ => ul_X7_10
  | 11, _ => ul_X7_11
  | 12, _ => ul_X7_12
  | 13, _ => ul_X7_13
  | 14, _ => ul_X7_14
  | k + 15, hk => absurd hk (by omega))
theorem inM_7 {c : Cond} : ∀ w ∈ u_ws RX7 TX7 15, w ∈ c :: AW := fun w h => List.mem_cons_of_mem _ (inA_7 w h)
theorem ul_X8_0 : u_lay RX8 TX8 0 ∈ AW := aw3 108 rfl rfl
theorem ul_X8_1 : u_lay RX8 TX8 1 ∈ AW := aw3 110 rfl rfl
theorem ul_X8_2 : u_lay RX8 TX8 2 ∈ AW := aw3 112 rfl rfl
theorem ul_X8_3 : u_lay RX8 TX8 3 ∈ AW := aw3 114 rfl rfl
theorem ul_X8_4 : u_lay RX8 TX8 4 ∈ AW := aw3 116 rfl rfl
theorem ul_X8_5 : u_lay RX8 TX8 5 ∈ AW := aw3 118 rfl rfl
theorem ul_X8_6 : u_lay RX8 TX8 6 ∈ AW := aw3 120 rfl rfl
theorem ul_X8_7 : u_lay RX8 TX8 7 ∈ AW := aw3 122 rfl rfl
theorem ul_X8_8 : u_lay RX8 TX8 8 ∈ AW := aw3 124 rfl rfl
theorem ul_X8_9 : u_lay RX8 TX8 9 ∈ AW := aw3 126 rfl rfl
theorem ul_X8_10 : u_lay RX8 TX8 10 ∈ AW := aw3 128 rfl rfl
theorem ul_X8_11 : u_lay RX8 TX8 11 ∈ AW := aw3 130 rfl rfl
theorem ul_X8_12 : u_lay RX8 TX8 12 ∈ AW := aw3 132 rfl rfl
theorem ul_X8_13 : u_lay RX8 TX8 13 ∈ AW := aw3 134 rfl rfl
theorem ul_X8_14 : u_lay RX8 TX8 14 ∈ AW := aw3 136 rfl rfl
theorem ul_X8_15 : u_lay RX8 TX8 15 ∈ AW := aw3 138 rfl rfl
theorem ul_X8_16 : u_lay RX8 TX8 16 ∈ AW := aw3 140 rfl rfl
theorem ul_X8_17 : u_lay RX8 TX8 17 ∈ AW := aw3 142 rfl rfl
theorem ul_X8_18 : u_lay RX8 TX8 18 ∈ AW := aw3 144 rfl rfl
theorem ul_X8_19 : u_lay RX8 TX8 19 ∈ AW := aw3 146 rfl rfl
theorem ul_X8_20 : u_lay RX8 TX8 20 ∈ AW := aw3 148 rfl rfl
theorem ul_X8_21 : u_lay RX8 TX8 21 ∈ AW := aw3 150 rfl rfl
theorem ul_X8_22 : u_lay RX8 TX8 22 ∈ AW := aw3 152 rfl rfl
theorem ul_X8_23 : u_lay RX8 TX8 23 ∈ AW := aw3 154 rfl rfl
theorem ul_X8_24 : u_lay RX8 TX8 24 ∈ AW := aw3 156 rfl rfl
theorem ul_X8_25 : u_lay RX8 TX8 25 ∈ AW := aw3 158 rfl rfl
theorem ul_X8_26 : u_lay RX8 TX8 26 ∈ AW := aw3 160 rfl rfl
theorem ul_X8_27 : u_lay RX8 TX8 27 ∈ AW := aw3 162 rfl rfl
theorem ul_X8_28 : u_lay RX8 TX8 28 ∈ AW := aw3 164 rfl rfl
theorem ul_X8_29 : u_lay RX8 TX8 29 ∈ AW := aw3 166 rfl rfl
theorem ul_X8_30 : u_lay RX8 TX8 30 ∈ AW := aw3 168 rfl rfl
theorem ul_X8_31 : u_lay RX8 TX8 31 ∈ AW := aw3 170 rfl rfl
theorem ul_X8_32 : u_lay RX8 TX8 32 ∈ AW := aw3 172 rfl rfl
theorem ul_X8_33 : u_lay RX8 TX8 33 ∈ AW := aw3 174 rfl rfl
theorem ul_X8_34 : u_lay RX8 TX8 34 ∈ AW := aw3 176 rfl rfl
theorem ul_X8_35 : u_lay RX8 TX8 35 ∈ AW := aw3 178 rfl rfl
theorem ul_X8_36 : u_lay RX8 TX8 36 ∈ AW := aw3 180 rfl rfl
theorem ul_X8_37 : u_lay RX8 TX8 37 ∈ AW := aw3 182 rfl rfl
theorem ul_X8_38 : u_lay RX8 TX8 38 ∈ AW := aw3 184 rfl rfl
theorem ul_X8_39 : u_lay RX8 TX8 39 ∈ AW := aw3 186 rfl rfl
theorem ul_X8_40 : u_lay RX8 TX8 40 ∈ AW := aw3 188 rfl rfl
theorem ul_X8_41 : u_lay RX8 TX8 41 ∈ AW := aw3 190 rfl rfl
theorem ul_X8_42 : u_lay RX8 TX8 42 ∈ AW := aw3 192 rfl rfl
theorem ul_X8_43 : u_lay RX8 TX8 43 ∈ AW := aw3 194 rfl rfl
theorem ul_X8_44 : u_lay RX8 TX8 44 ∈ AW := aw3 196 rfl rfl
theorem ul_X8_45 : u_lay RX8 TX8 45 ∈ AW := aw3 198 rfl rfl
theorem ul_X8_46 : u_lay RX8 TX8 46 ∈ AW := aw3 200 rfl rfl
theorem ul_X8_47 : u_lay RX8 TX8 47 ∈ AW := aw3 202 rfl rfl
theorem ul_X8_48 : u_lay RX8 TX8 48 ∈ AW := aw3 204 rfl rfl
theorem ul_X8_49 : u_lay RX8 TX8 49 ∈ AW := aw3 206 rfl rfl
theorem ul_X8_50 : u_lay RX8 TX8 50 ∈ AW := aw3 208 rfl rfl
theorem ul_X8_51 : u_lay RX8 TX8 51 ∈ AW := aw3 210 rfl rfl
theorem ul_X8_52 : u_lay RX8 TX8 52 ∈ AW := aw3 212 rfl rfl
theorem ul_X8_53 : u_lay RX8 TX8 53 ∈ AW := aw3 214 rfl rfl
theorem ul_X8_54 : u_lay RX8 TX8 54 ∈ AW := aw3 216 rfl rfl
theorem ul_X8_55 : u_lay RX8 TX8 55 ∈ AW := aw3 218 rfl rfl
theorem ul_X8_56 : u_lay RX8 TX8 56 ∈ AW := aw3 220 rfl rfl
theorem inA_8 : ∀ w ∈ u_ws RX8 TX8 57, w ∈ AW := by
  intro w h
  obtain ⟨k, hk, rfl⟩ := List.mem_map.mp h
  have hk := List.mem_range.mp hk
  exact (match k, hk with
  | 0, _ => ul_X8_0
  | 1, _ => ul_X8_1
  | 2, _ => ul_X8_2
  | 3, _ => ul_X8_3
  | 4, _ => ul_X8_4
  | 5, _ => ul_X8_5
  | 6, _ => ul_X8_6
  | 7, _ => ul_X8_7
  | 8, _ => ul_X8_8
  | 9, _ => ul_X8_9
  | 10, _ => ul_X8_10
  | 11, _ => ul_X8_11
  | 12, _ => ul_X8_12
  | 13, _ => ul_X8_13
  | 14, _ => ul_X8_14
  | 15, _ => ul_X8_15
  | 16, _ => ul_X8_16
  | 17, _ => ul_X8_17
  | 18, _ => ul_X8_18
  | 19, _ => ul_X8_19
  | 20, _ => ul_X8_20
  | 21, _ => ul_X8_21
  | 22, _ => ul_X8_22
  | 23, _ => ul_X8_23
  | 24, _ => ul_X8_24
  | 25, _ => ul_X8_25
  | 26, _ => ul_X8_26
  | 27, _ => ul_X8_27
  | 28, _ => ul_X8_28
  | 29, _ => ul_X8_29
  | 30, _ => ul_X8_30
  | 31, _ => ul_X8_31
  | 32, _ => ul_X8_32
  | 33, _ => ul_X8_33
  | 34, _ => ul_X8_34
  | 35, _ => ul_X8_35
  | 36, _ => ul_X8_36
  | 37, _ => ul_X8_37
  | 38, _ => ul_X8_38
  | 39, _ => ul_X8_39
  | 40, _ => ul_X8_40
  | 41, _ => ul_X8_41
  | 42, _ => ul_X8_42
  | 43, _ => ul_X8_43
  | 44, _ => ul_X8_44
  | 45, _ => ul_X8_45
  | 46, _ => ul_X8_46
  | 47, _ => ul_X8_47
  | 48, _ => ul_X8_48
  | 49, _ => ul_X8_49
  | 50, _ => ul_X8_50
  | 51, _ => ul_X8_51
  | 52, _ => ul_X8_52
  | 53, _ => ul_X8_53
  | 54, _ => ul_X8_54
  | 55, _ => ul_X8_55
  | 56, _ => ul_X8_56
  | k + 57, hk => absurd hk (by omega))
theorem inM_8 {c : Cond} : ∀ w ∈ u_ws RX8 TX8 57, w ∈ c :: AW := fun w h => List.mem_cons_of_mem _ (inA_8 w h)
theorem mc {w c : Cond} {l : List Cond} (h : w ∈ l) : w ∈ c :: l := List.mem_cons_of_mem _ h
theorem mcs {c : Cond} {l : List Cond} : ∀ w ∈ l, w ∈ c :: l := fun _ h => List.mem_cons_of_mem _ h
def nwF : List (String × Nat × String × String × String × String) := [("IronCampaign$Column", 24, "IronCampaign$Table", "rows", "I", "IronCampaign"), ("IronCampaign$Sale", 57, "IronCampaign$Table", "rows", "I", "IronCampaign"), ("IronCampaign", 109, "IronCampaign$Table", "rows", "I", "IronCampaign"), ("IronCampaign$Furnace", 53, "IronCampaign$Column", "charges", "LIronCampaign$Table;", "IronCampaign"), ("IronCampaign", 98, "IronCampaign$Column", "charges", "LIronCampaign$Table;", "IronCampaign"), ("IronCampaign$Furnace", 57, "IronCampaign$Column", "lowest", "I", "IronCampaign"), ("IronCampaign", 119, "IronCampaign$Column", "lowest", "I", "IronCampaign"), ("IronCampaign", 153, "IronCampaign$Hearth", "iron", "I", "IronCampaign"), ("IronCampaign", 127, "IronCampaign$Hearth", "holds", "I", "IronCampaign"), ("IronCampaign", 177, "IronCampaign$Hearth", "made", "I", "IronCampaign"), ("IronCampaign", 174, "IronCampaign$Hearth", "spilled", "I", "IronCampaign"), ("IronCampaign", 236, "IronCampaign$Hearth", "firstCharge", "I", "IronCampaign"), ("IronCampaign", 239, "IronCampaign$Hearth", "lastCharge", "I", "IronCampaign"), ("IronCampaign", 233, "IronCampaign$Hearth", "leastSort", "I", "IronCampaign"), ("IronCampaign", 116, "IronCampaign$Furnace", "blast", "I", "IronCampaign"), ("IronCampaign", 147, "IronCampaign$Furnace", "heat", "I", "IronCampaign"), ("IronCampaign", 162, "IronCampaign$Furnace", "slag", "I", "IronCampaign"), ("IronCampaign", 150, "IronCampaign$Furnace", "slagOfTick", "I", "IronCampaign"), ("IronCampaign", 165, "IronCampaign$Furnace", "wear", "I", "IronCampaign"), ("IronCampaign", 130, "IronCampaign$Furnace", "life", "I", "IronCampaign"), ("IronCampaign", 137, "IronCampaign$Furnace", "ticks", "I", "IronCampaign"), ("IronCampaign", 168, "IronCampaign$Furnace", "burned", "I", "IronCampaign"), ("IronCampaign", 171, "IronCampaign$Furnace", "chills", "I", "IronCampaign"), ("IronCampaign", 133, "IronCampaign$Furnace", "out", "Z", "IronCampaign"), ("IronCampaign", 180, "IronCampaign$Signs", "seen", "[I", "IronCampaign"), ("IronCampaign", 183, "IronCampaign$Signs", "toLose", "[I", "IronCampaign"), ("IronCampaign", 205, "IronCampaign$Sale", "pigOf", "[I", "IronCampaign"), ("IronCampaign", 202, "IronCampaign$Sale", "weight", "[I", "IronCampaign"), ("IronCampaign", 199, "IronCampaign$Sale", "best", "[I", "IronCampaign"), ("IronCampaign", 196, "IronCampaign$Sale", "lots", "I", "IronCampaign"), ("IronCampaign", 193, "IronCampaign$Sale", "bestPay", "I", "IronCampaign"), ("IronCampaign", 218, "IronCampaign$Planner", "best", "[I", "IronCampaign"), ("IronCampaign", 215, "IronCampaign$Planner", "planned", "I", "IronCampaign")]
def nwM : List (String × Nat × MethodName × String) := [("IronCampaign", 18, ⟨"IronCampaign$Column", "<init>", "()V"⟩, "IronCampaign"), ("IronCampaign", 25, ⟨"IronCampaign$Hearth", "<init>", "()V"⟩, "IronCampaign"), ("IronCampaign", 32, ⟨"IronCampaign$Furnace", "<init>", "()V"⟩, "IronCampaign"), ("IronCampaign", 61, ⟨"IronCampaign$Sale", "<init>", "()V"⟩, "IronCampaign"), ("IronCampaign", 74, ⟨"IronCampaign$Planner", "<init>", "()V"⟩, "IronCampaign")]
def NM : Nm := (vwCl, nwF, nwM)
theorem nf_X0_24 : (RX0, 24, (TX6 3).1, (TX6 3).2.1, (TX6 3).2.2.1, "IronCampaign") ∈ NM.2.1 := List.mem_of_getElem? (i := 0) rfl
theorem nf_X4_57 : (RX4, 57, (TX6 3).1, (TX6 3).2.1, (TX6 3).2.2.1, "IronCampaign") ∈ NM.2.1 := List.mem_of_getElem? (i := 1) rfl
theorem nf_X7_109 : (RX7, 109, (TX6 3).1, (TX6 3).2.1, (TX6 3).2.2.1, "IronCampaign") ∈ NM.2.1 := List.mem_of_getElem? (i := 2) rfl
theorem nf_X1_53 : (RX1, 53, (TX0 0).1, (TX0 0).2.1, (TX0 0).2.2.1, "IronCampaign") ∈ NM.2.1 := List.mem_of_getElem? (i := 3) rfl
theorem nf_X7_98 : (RX7, 98, (TX0 0).1, (TX0 0).2.1, (TX0 0).2.2.1, "IronCampaign") ∈ NM.2.1 := List.mem_of_getElem? (i := 4) rfl
theorem nf_X1_57 : (RX1, 57, (TX0 1).1, (TX0 1).2.1, (TX0 1).2.2.1, "IronCampaign") ∈ NM.2.1 := List.mem_of_getElem? (i := 5) rfl
theorem nf_X7_119 : (RX7, 119, (TX0 1).1, (TX0 1).2.1, (TX0 1).2.2.1, "IronCampaign") ∈ NM.2.1 := List.mem_of_getElem? (i := 6) rfl
theorem nf_X7_153 : (RX7, 153, (TX2 0).1, (TX2 0).2.1, (TX2 0).2.2.1, "IronCampaign") ∈ NM.2.1 := List.mem_of_getElem? (i := 7) rfl
theorem nf_X7_127 : (RX7, 127, (TX2 1).1, (TX2 1).2.1, (TX2 1).2.2.1, "IronCampaign") ∈ NM.2.1 := List.mem_of_getElem? (i := 8) rfl
theorem nf_X7_177 : (RX7, 177, (TX2 2).1, (TX2 2).2.1, (TX2 2).2.2.1, "IronCampaign") ∈ NM.2.1 := List.mem_of_getElem? (i := 9) rfl
theorem nf_X7_174 : (RX7, 174, (TX2 3).1, (TX2 3).2.1, (TX2 3).2.2.1, "IronCampaign") ∈ NM.2.1 := List.mem_of_getElem? (i := 10) rfl
theorem nf_X7_236 : (RX7, 236, (TX2 4).1, (TX2 4).2.1, (TX2 4).2.2.1, "IronCampaign") ∈ NM.2.1 := List.mem_of_getElem? (i := 11) rfl
theorem nf_X7_239 : (RX7, 239, (TX2 5).1, (TX2 5).2.1, (TX2 5).2.2.1, "IronCampaign") ∈ NM.2.1 := List.mem_of_getElem? (i := 12) rfl
theorem nf_X7_233 : (RX7, 233, (TX2 6).1, (TX2 6).2.1, (TX2 6).2.2.1, "IronCampaign") ∈ NM.2.1 := List.mem_of_getElem? (i := 13) rfl
theorem nf_X7_116 : (RX7, 116, (TX1 0).1, (TX1 0).2.1, (TX1 0).2.2.1, "IronCampaign") ∈ NM.2.1 := List.mem_of_getElem? (i := 14) rfl
theorem nf_X7_147 : (RX7, 147, (TX1 1).1, (TX1 1).2.1, (TX1 1).2.2.1, "IronCampaign") ∈ NM.2.1 := List.mem_of_getElem? (i := 15) rfl
theorem nf_X7_162 : (RX7, 162, (TX1 2).1, (TX1 2).2.1, (TX1 2).2.2.1, "IronCampaign") ∈ NM.2.1 := List.mem_of_getElem? (i := 16) rfl
theorem nf_X7_150 : (RX7, 150, (TX1 3).1, (TX1 3).2.1, (TX1 3).2.2.1, "IronCampaign") ∈ NM.2.1 := List.mem_of_getElem? (i := 17) rfl
theorem nf_X7_165 : (RX7, 165, (TX1 4).1, (TX1 4).2.1, (TX1 4).2.2.1, "IronCampaign") ∈ NM.2.1 := List.mem_of_getElem? (i := 18) rfl
theorem nf_X7_130 : (RX7, 130, (TX1 5).1, (TX1 5).2.1, (TX1 5).2.2.1, "IronCampaign") ∈ NM.2.1 := List.mem_of_getElem? (i := 19) rfl
theorem nf_X7_137 : (RX7, 137, (TX1 6).1, (TX1 6).2.1, (TX1 6).2.2.1, "IronCampaign") ∈ NM.2.1 := List.mem_of_getElem? (i := 20) rfl
theorem nf_X7_168 : (RX7, 168, (TX1 7).1, (TX1 7).2.1, (TX1 7).2.2.1, "IronCampaign") ∈ NM.2.1 := List.mem_of_getElem? (i := 21) rfl
theorem nf_X7_171 : (RX7, 171, (TX1 8).1, (TX1 8).2.1, (TX1 8).2.2.1, "IronCampaign") ∈ NM.2.1 := List.mem_of_getElem? (i := 22) rfl
theorem nf_X7_133 : (RX7, 133, (TX1 9).1, (TX1 9).2.1, (TX1 9).2.2.1, "IronCampaign") ∈ NM.2.1 := List.mem_of_getElem? (i := 23) rfl
theorem nf_X7_180 : (RX7, 180, (TX5 0).1, (TX5 0).2.1, (TX5 0).2.2.1, "IronCampaign") ∈ NM.2.1 := List.mem_of_getElem? (i := 24) rfl
theorem nf_X7_183 : (RX7, 183, (TX5 1).1, (TX5 1).2.1, (TX5 1).2.2.1, "IronCampaign") ∈ NM.2.1 := List.mem_of_getElem? (i := 25) rfl
theorem nf_X7_205 : (RX7, 205, (TX4 0).1, (TX4 0).2.1, (TX4 0).2.2.1, "IronCampaign") ∈ NM.2.1 := List.mem_of_getElem? (i := 26) rfl
theorem nf_X7_202 : (RX7, 202, (TX4 1).1, (TX4 1).2.1, (TX4 1).2.2.1, "IronCampaign") ∈ NM.2.1 := List.mem_of_getElem? (i := 27) rfl
theorem nf_X7_199 : (RX7, 199, (TX4 4).1, (TX4 4).2.1, (TX4 4).2.2.1, "IronCampaign") ∈ NM.2.1 := List.mem_of_getElem? (i := 28) rfl
theorem nf_X7_196 : (RX7, 196, (TX4 7).1, (TX4 7).2.1, (TX4 7).2.2.1, "IronCampaign") ∈ NM.2.1 := List.mem_of_getElem? (i := 29) rfl
theorem nf_X7_193 : (RX7, 193, (TX4 8).1, (TX4 8).2.1, (TX4 8).2.2.1, "IronCampaign") ∈ NM.2.1 := List.mem_of_getElem? (i := 30) rfl
theorem nf_X7_218 : (RX7, 218, (TX3 5).1, (TX3 5).2.1, (TX3 5).2.2.1, "IronCampaign") ∈ NM.2.1 := List.mem_of_getElem? (i := 31) rfl
theorem nf_X7_215 : (RX7, 215, (TX3 8).1, (TX3 8).2.1, (TX3 8).2.2.1, "IronCampaign") ∈ NM.2.1 := List.mem_of_getElem? (i := 32) rfl
theorem nm_X7_18 : (RX7, 18, yX0_init, "IronCampaign") ∈ NM.2.2 := List.mem_of_getElem? (i := 0) rfl
theorem nm_X7_25 : (RX7, 25, yX2_init, "IronCampaign") ∈ NM.2.2 := List.mem_of_getElem? (i := 1) rfl
theorem nm_X7_32 : (RX7, 32, yX1_init, "IronCampaign") ∈ NM.2.2 := List.mem_of_getElem? (i := 2) rfl
theorem nm_X7_61 : (RX7, 61, yX4_init, "IronCampaign") ∈ NM.2.2 := List.mem_of_getElem? (i := 3) rfl
theorem nm_X7_74 : (RX7, 74, yX3_init, "IronCampaign") ∈ NM.2.2 := List.mem_of_getElem? (i := 4) rfl
theorem nc_0 : NM.1[0]? = some (RX0, TX0, 2) := rfl
theorem nc_1 : NM.1[1]? = some (RX1, TX1, 10) := rfl
theorem nc_2 : NM.1[2]? = some (RX2, TX2, 7) := rfl
theorem nc_3 : NM.1[3]? = some (RX3, TX3, 9) := rfl
theorem nc_4 : NM.1[4]? = some (RX4, TX4, 9) := rfl
theorem nc_5 : NM.1[5]? = some (RX5, TX5, 2) := rfl
theorem nc_6 : NM.1[6]? = some (RX6, TX6, 4) := rfl
theorem nc_7 : NM.1[7]? = some (RX7, TX7, 15) := rfl
theorem nc_8 : NM.1[8]? = some (RX8, TX8, 57) := rfl
def SH : List Shp := [.inl (7, [some 2, some 3, some 4, some 7, some 8, some 9, some 11, some 14, some 16, some 18, some 26, some 28, some 30, none, none]),
  .inr (0, 6),
  .inr (0, 4),
  .inl (0, [some 5, none]),
  .inl (6, [some 6, none, none, none]),
  .inr (0, 2800),
  .inl (2, [none, none, none, none, none, none, none]),
  .inl (1, [none, none, none, none, none, none, none, none, none, none]),
  .inl (6, [some 10, none, none, none]),
  .inr (0, 360),
  .inl (5, [some 12, some 13]),
  .inr (0, 3),
  .inr (0, 3),
  .inl (6, [some 15, none, none, none]),
  .inr (0, 32),
  .inl (6, [some 17, none, none, none]),
  .inr (0, 9),
  .inl (4, [some 19, some 20, some 21, some 22, some 23, some 24, some 25, none, none]),
  .inr (0, 8),
  .inr (0, 8),
  .inr (0, 8),
  .inr (0, 8),
  .inr (0, 8),
  .inr (0, 9),
  .inr (0, 3),
  .inl (6, [some 27, none, none, none]),
  .inr (0, 24),
  .inl (6, [some 29, none, none, none]),
  .inr (0, 15),
  .inl (3, [some 31, some 32, some 33, some 34, some 35, some 36, none, none, none]),
  .inr (0, 6),
  .inr (0, 6),
  .inr (0, 7),
  .inr (0, 6),
  .inr (0, 6),
  .inr (0, 6),
  .inl (8, [some 38, some 39, none, none, some 40, some 41, some 42, some 43, some 44, some 45, some 46, none, none, none, none, none, none, none, none, none, none, none, none, none, none, none, none, none, some 47, some 48, some 49, some 50, some 51, some 52, some 53, some 54, none, some 55, some 56, some 57, some 58, none, some 59, some 60, some 61, none, some 62, some 63, some 64, some 65, some 66, some 67, none, some 68, none, none, some 69]),
  .inr (0, 6),
  .inr (0, 4),
  .inr (0, 400),
  .inr (0, 400),
  .inr (0, 400),
  .inr (0, 400),
  .inr (0, 400),
  .inr (0, 400),
  .inr (0, 400),
  .inr (0, 60),
  .inr (0, 60),
  .inr (0, 60),
  .inr (0, 60),
  .inr (0, 60),
  .inr (0, 60),
  .inr (0, 3),
  .inr (0, 3),
  .inr (0, 8),
  .inr (1, 8),
  .inr (0, 8),
  .inr (0, 8),
  .inr (0, 3),
  .inr (0, 3),
  .inr (0, 3),
  .inr (0, 12),
  .inr (0, 12),
  .inr (0, 5),
  .inr (0, 5),
  .inr (0, 5),
  .inr (0, 6),
  .inr (0, 8),
  .inr (0, 3)]
theorem sh_0 : SH[0]? = some (.inl (7, [some 2, some 3, some 4, some 7, some 8, some 9, some 11, some 14, some 16, some 18, some 26, some 28, some 30, none, none])) := rfl
theorem sh_1 : SH[1]? = some (.inr (0, 6)) := rfl
theorem sh_2 : SH[2]? = some (.inr (0, 4)) := rfl
theorem sh_3 : SH[3]? = some (.inl (0, [some 5, none])) := rfl
theorem sh_4 : SH[4]? = some (.inl (6, [some 6, none, none, none])) := rfl
theorem sh_5 : SH[5]? = some (.inr (0, 2800)) := rfl
theorem sh_6 : SH[6]? = some (.inl (2, [none, none, none, none, none, none, none])) := rfl
theorem sh_7 : SH[7]? = some (.inl (1, [none, none, none, none, none, none, none, none, none, none])) := rfl
theorem sh_8 : SH[8]? = some (.inl (6, [some 10, none, none, none])) := rfl
theorem sh_9 : SH[9]? = some (.inr (0, 360)) := rfl
theorem sh_10 : SH[10]? = some (.inl (5, [some 12, some 13])) := rfl
theorem sh_11 : SH[11]? = some (.inr (0, 3)) := rfl
theorem sh_12 : SH[12]? = some (.inr (0, 3)) := rfl
theorem sh_13 : SH[13]? = some (.inl (6, [some 15, none, none, none])) := rfl
theorem sh_14 : SH[14]? = some (.inr (0, 32)) := rfl
theorem sh_15 : SH[15]? = some (.inl (6, [some 17, none, none, none])) := rfl
theorem sh_16 : SH[16]? = some (.inr (0, 9)) := rfl
theorem sh_17 : SH[17]? = some (.inl (4, [some 19, some 20, some 21, some 22, some 23, some 24, some 25, none, none])) := rfl
theorem sh_18 : SH[18]? = some (.inr (0, 8)) := rfl
theorem sh_19 : SH[19]? = some (.inr (0, 8)) := rfl
theorem sh_20 : SH[20]? = some (.inr (0, 8)) := rfl
theorem sh_21 : SH[21]? = some (.inr (0, 8)) := rfl
theorem sh_22 : SH[22]? = some (.inr (0, 8)) := rfl
theorem sh_23 : SH[23]? = some (.inr (0, 9)) := rfl
theorem sh_24 : SH[24]? = some (.inr (0, 3)) := rfl
theorem sh_25 : SH[25]? = some (.inl (6, [some 27, none, none, none])) := rfl
theorem sh_26 : SH[26]? = some (.inr (0, 24)) := rfl
theorem sh_27 : SH[27]? = some (.inl (6, [some 29, none, none, none])) := rfl
theorem sh_28 : SH[28]? = some (.inr (0, 15)) := rfl
theorem sh_29 : SH[29]? = some (.inl (3, [some 31, some 32, some 33, some 34, some 35, some 36, none, none, none])) := rfl
theorem sh_30 : SH[30]? = some (.inr (0, 6)) := rfl
theorem sh_31 : SH[31]? = some (.inr (0, 6)) := rfl
theorem sh_32 : SH[32]? = some (.inr (0, 7)) := rfl
theorem sh_33 : SH[33]? = some (.inr (0, 6)) := rfl
theorem sh_34 : SH[34]? = some (.inr (0, 6)) := rfl
theorem sh_35 : SH[35]? = some (.inr (0, 6)) := rfl
theorem sh_36 : SH[36]? = some (.inl (8, [some 38, some 39, none, none, some 40, some 41, some 42, some 43, some 44, some 45, some 46, none, none, none, none, none, none, none, none, none, none, none, none, none, none, none, none, none, some 47, some 48, some 49, some 50, some 51, some 52, some 53, some 54, none, some 55, some 56, some 57, some 58, none, some 59, some 60, some 61, none, some 62, some 63, some 64, some 65, some 66, some 67, none, some 68, none, none, some 69])) := rfl
theorem sh_37 : SH[37]? = some (.inr (0, 6)) := rfl
theorem sh_38 : SH[38]? = some (.inr (0, 4)) := rfl
theorem sh_39 : SH[39]? = some (.inr (0, 400)) := rfl
theorem sh_40 : SH[40]? = some (.inr (0, 400)) := rfl
theorem sh_41 : SH[41]? = some (.inr (0, 400)) := rfl
theorem sh_42 : SH[42]? = some (.inr (0, 400)) := rfl
theorem sh_43 : SH[43]? = some (.inr (0, 400)) := rfl
theorem sh_44 : SH[44]? = some (.inr (0, 400)) := rfl
theorem sh_45 : SH[45]? = some (.inr (0, 400)) := rfl
theorem sh_46 : SH[46]? = some (.inr (0, 60)) := rfl
theorem sh_47 : SH[47]? = some (.inr (0, 60)) := rfl
theorem sh_48 : SH[48]? = some (.inr (0, 60)) := rfl
theorem sh_49 : SH[49]? = some (.inr (0, 60)) := rfl
theorem sh_50 : SH[50]? = some (.inr (0, 60)) := rfl
theorem sh_51 : SH[51]? = some (.inr (0, 60)) := rfl
theorem sh_52 : SH[52]? = some (.inr (0, 3)) := rfl
theorem sh_53 : SH[53]? = some (.inr (0, 3)) := rfl
theorem sh_54 : SH[54]? = some (.inr (0, 8)) := rfl
theorem sh_55 : SH[55]? = some (.inr (1, 8)) := rfl
theorem sh_56 : SH[56]? = some (.inr (0, 8)) := rfl
theorem sh_57 : SH[57]? = some (.inr (0, 8)) := rfl
theorem sh_58 : SH[58]? = some (.inr (0, 3)) := rfl
theorem sh_59 : SH[59]? = some (.inr (0, 3)) := rfl
theorem sh_60 : SH[60]? = some (.inr (0, 3)) := rfl
theorem sh_61 : SH[61]? = some (.inr (0, 12)) := rfl
theorem sh_62 : SH[62]? = some (.inr (0, 12)) := rfl
theorem sh_63 : SH[63]? = some (.inr (0, 5)) := rfl
theorem sh_64 : SH[64]? = some (.inr (0, 5)) := rfl
theorem sh_65 : SH[65]? = some (.inr (0, 5)) := rfl
theorem sh_66 : SH[66]? = some (.inr (0, 6)) := rfl
theorem sh_67 : SH[67]? = some (.inr (0, 8)) := rfl
theorem sh_68 : SH[68]? = some (.inr (0, 3)) := rfl
def rmR (d : Nat) : Room := { frames := 10 + d, cells := 0, slots := 0, locals := 200 + 40 * d }
theorem lk_X0_11 : LkI AW RX0 11 yX6_init cX6_init 3 2 := ⟨⟨wd_137, wd_139, wd_138, by decide, by decide, by decide⟩, wd_140, rfl⟩
theorem lk_X0_27 : LkV AW RX0 27 yX6_add cX6_add 1 (some .int) 0 := ⟨⟨wd_141, wd_142, wd_138, by decide, by decide, by decide⟩, wd_143, wd_144⟩
theorem lk_X0_31 : LkV AW RX0 31 yX6_set cX6_set 4 none 3 := ⟨⟨wd_145, wd_146, wd_138, by decide, by decide, by decide⟩, wd_147, wd_148⟩
theorem lk_X0_35 : LkV AW RX0 35 yX6_get cX6_get 3 (some .int) 2 := ⟨⟨wd_149, wd_150, wd_138, by decide, by decide, by decide⟩, wd_151, wd_152⟩
theorem lk_X1_43 : LkV AW RX1 43 yX0_burn cX0_burn 6 (some .int) 1 := ⟨⟨wd_153, wd_155, wd_154, by decide, by decide, by decide⟩, wd_156, wd_157⟩
theorem lk_X1_49 : LkV AW RX1 49 yX0_lowestIsBurned cX0_lowestIsBurned 1 (some .boolean) 0 := ⟨⟨wd_158, wd_159, wd_154, by decide, by decide, by decide⟩, wd_160, wd_161⟩
theorem lk_X1_60 : LkV AW RX1 60 yX1_bringDown cX1_bringDown 10 none 4 := ⟨⟨wd_162, wd_164, wd_163, by decide, by decide, by decide⟩, wd_165, wd_166⟩
theorem lk_X1_73 : LkV AW RX1 73 yX2_spill cX2_spill 2 (some .int) 0 := ⟨⟨wd_167, wd_169, wd_168, by decide, by decide, by decide⟩, wd_170, wd_171⟩
theorem lk_X1_79 : LkV AW RX1 79 yX6_get cX6_get 3 (some .int) 2 := ⟨⟨wd_149, wd_172, wd_138, by decide, by decide, by decide⟩, wd_151, wd_152⟩
theorem lk_X1_84 : LkV AW RX1 84 yX6_set cX6_set 4 none 3 := ⟨⟨wd_145, wd_173, wd_138, by decide, by decide, by decide⟩, wd_147, wd_148⟩
theorem lk_X1_88 : LkV AW RX1 88 yX1_sortOf cX1_sortOf 4 (some .int) 2 := ⟨⟨wd_174, wd_175, wd_163, by decide, by decide, by decide⟩, wd_176, wd_177⟩
theorem lk_X1_91 : LkV AW RX1 91 yX2_pour cX2_pour 4 none 3 := ⟨⟨wd_178, wd_179, wd_168, by decide, by decide, by decide⟩, wd_180, wd_181⟩
theorem lk_X3_49 : LkV AW RX3 49 yX6_get cX6_get 3 (some .int) 2 := ⟨⟨wd_149, wd_182, wd_138, by decide, by decide, by decide⟩, wd_151, wd_152⟩
theorem lk_X3_54 : LkS AW RX3 54 yX3_goOn cX3_goOn 10 none 6 := ⟨⟨wd_183, wd_185, wd_184, by decide, by decide, by decide⟩, wd_186⟩
theorem lk_X4_40 : LkV AW RX4 40 yX4_readPigs cX4_readPigs 3 none 1 := ⟨⟨wd_187, wd_189, wd_188, by decide, by decide, by decide⟩, wd_190, wd_191⟩
theorem lk_X4_44 : LkV AW RX4 44 yX6_get cX6_get 3 (some .int) 2 := ⟨⟨wd_149, wd_192, wd_138, by decide, by decide, by decide⟩, wd_151, wd_152⟩
theorem lk_X4_50 : LkV AW RX4 50 yX4_readHopes cX4_readHopes 5 none 1 := ⟨⟨wd_193, wd_194, wd_188, by decide, by decide, by decide⟩, wd_195, wd_196⟩
theorem lk_X4_53 : LkS AW RX4 53 yX4_place cX4_place 6 none 4 := ⟨⟨wd_197, wd_198, wd_188, by decide, by decide, by decide⟩, wd_199⟩
theorem lk_X4_60 : LkV AW RX4 60 yX4_canTake cX4_canTake 5 (some .boolean) 3 := ⟨⟨wd_200, wd_201, wd_188, by decide, by decide, by decide⟩, wd_202, wd_203⟩
theorem lk_X6_31 : LkV AW RX6 31 yX6_isFull cX6_isFull 1 (some .boolean) 0 := ⟨⟨wd_204, wd_205, wd_138, by decide, by decide, by decide⟩, wd_206, wd_207⟩
theorem lk_X6_35 : LkV AW RX6 35 yX6_has cX6_has 3 (some .boolean) 2 := ⟨⟨wd_208, wd_209, wd_138, by decide, by decide, by decide⟩, wd_210, wd_211⟩
theorem lk_X7_18 : LkN NM AW RX7 18 yX0_init "IronCampaign" cX0_init 1 0 := ⟨⟨wd_212, nm_X7_18, wd_154, by decide, by decide, by decide⟩, wd_213, rfl⟩
theorem lk_X7_25 : LkN NM AW RX7 25 yX2_init "IronCampaign" cX2_init 1 0 := ⟨⟨wd_214, nm_X7_25, wd_168, by decide, by decide, by decide⟩, wd_215, rfl⟩
theorem lk_X7_32 : LkN NM AW RX7 32 yX1_init "IronCampaign" cX1_init 1 0 := ⟨⟨wd_216, nm_X7_32, wd_163, by decide, by decide, by decide⟩, wd_217, rfl⟩
theorem lk_X7_39 : LkI AW RX7 39 yX6_init cX6_init 3 2 := ⟨⟨wd_137, wd_218, wd_138, by decide, by decide, by decide⟩, wd_140, rfl⟩
theorem lk_X7_48 : LkI AW RX7 48 yX5_init cX5_init 2 0 := ⟨⟨wd_219, wd_221, wd_220, by decide, by decide, by decide⟩, wd_222, rfl⟩
theorem lk_X7_61 : LkN NM AW RX7 61 yX4_init "IronCampaign" cX4_init 1 0 := ⟨⟨wd_223, nm_X7_61, wd_188, by decide, by decide, by decide⟩, wd_224, rfl⟩
theorem lk_X7_74 : LkN NM AW RX7 74 yX3_init "IronCampaign" cX3_init 1 0 := ⟨⟨wd_225, nm_X7_74, wd_184, by decide, by decide, by decide⟩, wd_226, rfl⟩
theorem lk_X7_86 : LkV AW RX7 86 yX6_set cX6_set 4 none 3 := ⟨⟨wd_145, wd_227, wd_138, by decide, by decide, by decide⟩, wd_147, wd_148⟩
theorem lk_X7_90 : LkS AW RX7 90 yX7_within cX7_within 3 (some .boolean) 3 := ⟨⟨wd_228, wd_230, wd_229, by decide, by decide, by decide⟩, wd_231⟩
theorem lk_X7_94 : LkV AW RX7 94 yX0_size cX0_size 1 (some .int) 0 := ⟨⟨wd_232, wd_233, wd_154, by decide, by decide, by decide⟩, wd_234, wd_235⟩
theorem lk_X7_101 : LkV AW RX7 101 yX6_isFull cX6_isFull 1 (some .boolean) 0 := ⟨⟨wd_204, wd_236, wd_138, by decide, by decide, by decide⟩, wd_206, wd_207⟩
theorem lk_X7_105 : LkV AW RX7 105 yX0_lay cX0_lay 6 (some .int) 4 := ⟨⟨wd_237, wd_238, wd_154, by decide, by decide, by decide⟩, wd_239, wd_240⟩
theorem lk_X7_112 : LkV AW RX7 112 yX6_get cX6_get 3 (some .int) 2 := ⟨⟨wd_149, wd_241, wd_138, by decide, by decide, by decide⟩, wd_151, wd_152⟩
theorem lk_X7_122 : LkV AW RX7 122 yX0_coalDownFrom cX0_coalDownFrom 4 (some .int) 1 := ⟨⟨wd_242, wd_243, wd_154, by decide, by decide, by decide⟩, wd_244, wd_245⟩
theorem lk_X7_140 : LkV AW RX7 140 yX7_followRules cX7_followRules 3 none 0 := ⟨⟨wd_246, wd_247, wd_229, by decide, by decide, by decide⟩, wd_248, wd_249⟩
theorem lk_X7_143 : LkV AW RX7 143 yX1_blow cX1_blow 6 none 3 := ⟨⟨wd_250, wd_251, wd_163, by decide, by decide, by decide⟩, wd_252, wd_253⟩
theorem lk_X7_156 : LkV AW RX7 156 yX5_look cX5_look 5 none 3 := ⟨⟨wd_254, wd_255, wd_220, by decide, by decide, by decide⟩, wd_256, wd_257⟩
theorem lk_X7_159 : LkV AW RX7 159 yX7_castPig cX7_castPig 2 (some .int) 0 := ⟨⟨wd_258, wd_259, wd_229, by decide, by decide, by decide⟩, wd_260, wd_261⟩
theorem lk_X7_186 : LkV AW RX7 186 yX6_add cX6_add 1 (some .int) 0 := ⟨⟨wd_141, wd_262, wd_138, by decide, by decide, by decide⟩, wd_143, wd_144⟩
theorem lk_X7_189 : LkV AW RX7 189 yX4_settle cX4_settle 4 none 2 := ⟨⟨wd_263, wd_264, wd_188, by decide, by decide, by decide⟩, wd_265, wd_266⟩
theorem lk_X7_208 : LkV AW RX7 208 yX3_readMonths cX3_readMonths 9 none 4 := ⟨⟨wd_267, wd_268, wd_184, by decide, by decide, by decide⟩, wd_269, wd_270⟩
theorem lk_X7_212 : LkV AW RX7 212 yX3_settle cX3_settle 5 (some .int) 3 := ⟨⟨wd_271, wd_272, wd_184, by decide, by decide, by decide⟩, wd_273, wd_274⟩
theorem lk_X7_223 : LkV AW RX7 223 yX7_count cX7_count 2 (some .int) 1 := ⟨⟨wd_275, wd_276, wd_229, by decide, by decide, by decide⟩, wd_277, wd_278⟩
theorem lk_X7_226 : LkV AW RX7 226 yX7_about cX7_about 2 (some .int) 1 := ⟨⟨wd_279, wd_280, wd_229, by decide, by decide, by decide⟩, wd_281, wd_282⟩
theorem lk_X7_229 : LkV AW RX7 229 yX6_mixInto cX6_mixInto 5 (some .long) 1 := ⟨⟨wd_283, wd_284, wd_138, by decide, by decide, by decide⟩, wd_285, wd_286⟩
theorem lk_X7_242 : LkV AW RX7 242 yX2_empty cX2_empty 1 none 0 := ⟨⟨wd_287, wd_288, wd_168, by decide, by decide, by decide⟩, wd_289, wd_290⟩
theorem lk_X7_245 : LkV AW RX7 245 yX7_isCalledFor cX7_isCalledFor 5 (some .boolean) 1 := ⟨⟨wd_291, wd_292, wd_229, by decide, by decide, by decide⟩, wd_293, wd_294⟩
theorem lk_X8_123 : LkS AW RX8 123 yX8_in cX8_in 3 (some .boolean) 3 := ⟨⟨wd_295, wd_297, wd_296, by decide, by decide, by decide⟩, wd_298⟩
theorem lk_X8_137 : LkV AW RX8 137 yX8_tap cX8_tap 1 (some .int) 0 := ⟨⟨wd_299, wd_300, wd_296, by decide, by decide, by decide⟩, wd_301, wd_302⟩
theorem lk_X8_159 : LkV AW RX8 159 yX8_act cX8_act 3 none 1 := ⟨⟨wd_303, wd_304, wd_296, by decide, by decide, by decide⟩, wd_305, wd_306⟩
theorem lk_X8_166 : LkV AW RX8 166 yX8_comesDown cX8_comesDown 2 none 0 := ⟨⟨wd_307, wd_308, wd_296, by decide, by decide, by decide⟩, wd_309, wd_310⟩
theorem lk_X8_182 : LkV AW RX8 182 yX8_see cX8_see 3 none 2 := ⟨⟨wd_311, wd_312, wd_296, by decide, by decide, by decide⟩, wd_313, wd_314⟩
theorem lk_X8_186 : LkV AW RX8 186 yX8_oneTick cX8_oneTick 5 none 0 := ⟨⟨wd_315, wd_316, wd_296, by decide, by decide, by decide⟩, wd_317, wd_318⟩
theorem lk_X8_198 : LkV AW RX8 198 yX8_digit cX8_digit 5 (some .int) 2 := ⟨⟨wd_319, wd_320, wd_296, by decide, by decide, by decide⟩, wd_321, wd_322⟩
theorem lk_X8_202 : LkV AW RX8 202 yX8_payOf cX8_payOf 6 (some .int) 1 := ⟨⟨wd_323, wd_324, wd_296, by decide, by decide, by decide⟩, wd_325, wd_326⟩
theorem lk_X8_209 : LkV AW RX8 209 yX8_findSale cX8_findSale 5 (some .int) 0 := ⟨⟨wd_327, wd_328, wd_296, by decide, by decide, by decide⟩, wd_329, wd_330⟩
theorem lk_X8_215 : LkV AW RX8 215 yX8_ironOf cX8_ironOf 14 (some .int) 6 := ⟨⟨wd_331, wd_332, wd_296, by decide, by decide, by decide⟩, wd_333, wd_334⟩
theorem lk_X8_226 : LkV AW RX8 226 yX8_count cX8_count 4 (some .int) 1 := ⟨⟨wd_335, wd_336, wd_296, by decide, by decide, by decide⟩, wd_337, wd_338⟩
theorem lk_X8_229 : LkV AW RX8 229 yX8_about cX8_about 2 (some .int) 1 := ⟨⟨wd_339, wd_340, wd_296, by decide, by decide, by decide⟩, wd_341, wd_342⟩
theorem lk_X8_232 : LkV AW RX8 232 yX8_chargeAt cX8_chargeAt 3 (some .int) 2 := ⟨⟨wd_343, wd_344, wd_296, by decide, by decide, by decide⟩, wd_345, wd_346⟩
theorem lk_X8_235 : LkV AW RX8 235 yX8_pig cX8_pig 3 (some .int) 2 := ⟨⟨wd_347, wd_348, wd_296, by decide, by decide, by decide⟩, wd_349, wd_350⟩
theorem lk_L_9 : LkI AW RL 9 yX7_init cX7_init 2 0 := ⟨⟨wd_351, wd_352, wd_229, by decide, by decide, by decide⟩, wd_353, rfl⟩
theorem lk_L_12 : LkI AW RL 12 yX8_init cX8_init 2 0 := ⟨⟨wd_354, wd_355, wd_296, by decide, by decide, by decide⟩, wd_356, rfl⟩
theorem lk_L_13 : LkV AW RL 13 yX7_buy cX7_buy 3 (some .int) 2 := ⟨⟨wd_357, wd_358, wd_229, by decide, by decide, by decide⟩, wd_359, wd_360⟩
theorem lk_L_17 : LkV AW RL 17 yX8_buy cX8_buy 3 (some .int) 2 := ⟨⟨wd_361, wd_362, wd_296, by decide, by decide, by decide⟩, wd_363, wd_364⟩
theorem lk_L_18 : LkV AW RL 18 yX7_rich cX7_rich 4 (some .int) 2 := ⟨⟨wd_365, wd_366, wd_229, by decide, by decide, by decide⟩, wd_367, wd_368⟩
theorem lk_L_21 : LkV AW RL 21 yX8_rich cX8_rich 4 (some .int) 2 := ⟨⟨wd_369, wd_370, wd_296, by decide, by decide, by decide⟩, wd_371, wd_372⟩
theorem lk_L_22 : LkV AW RL 22 yX7_charge cX7_charge 6 (some .int) 4 := ⟨⟨wd_373, wd_374, wd_229, by decide, by decide, by decide⟩, wd_375, wd_376⟩
theorem lk_L_26 : LkV AW RL 26 yX8_charge cX8_charge 5 (some .int) 4 := ⟨⟨wd_377, wd_378, wd_296, by decide, by decide, by decide⟩, wd_379, wd_380⟩
theorem lk_L_27 : LkV AW RL 27 yX7_chargeAt cX7_chargeAt 3 (some .int) 2 := ⟨⟨wd_381, wd_382, wd_229, by decide, by decide, by decide⟩, wd_383, wd_384⟩
theorem lk_L_30 : LkV AW RL 30 yX8_chargeAt cX8_chargeAt 3 (some .int) 2 := ⟨⟨wd_343, wd_385, wd_296, by decide, by decide, by decide⟩, wd_345, wd_346⟩
theorem lk_L_31 : LkV AW RL 31 yX7_when cX7_when 3 (some .int) 1 := ⟨⟨wd_386, wd_387, wd_229, by decide, by decide, by decide⟩, wd_388, wd_389⟩
theorem lk_L_35 : LkV AW RL 35 yX8_when cX8_when 4 (some .int) 1 := ⟨⟨wd_390, wd_391, wd_296, by decide, by decide, by decide⟩, wd_392, wd_393⟩
theorem lk_L_36 : LkV AW RL 36 yX7_blast cX7_blast 3 (some .int) 1 := ⟨⟨wd_394, wd_395, wd_229, by decide, by decide, by decide⟩, wd_396, wd_397⟩
theorem lk_L_39 : LkV AW RL 39 yX8_blast cX8_blast 3 (some .int) 1 := ⟨⟨wd_398, wd_399, wd_296, by decide, by decide, by decide⟩, wd_400, wd_401⟩
theorem lk_L_40 : LkV AW RL 40 yX7_hearth cX7_hearth 3 (some .int) 2 := ⟨⟨wd_402, wd_403, wd_229, by decide, by decide, by decide⟩, wd_404, wd_405⟩
theorem lk_L_43 : LkV AW RL 43 yX8_hearth cX8_hearth 3 (some .int) 2 := ⟨⟨wd_406, wd_407, wd_296, by decide, by decide, by decide⟩, wd_408, wd_409⟩
theorem lk_L_44 : LkV AW RL 44 yX7_tick cX7_tick 4 (some .int) 1 := ⟨⟨wd_410, wd_411, wd_229, by decide, by decide, by decide⟩, wd_412, wd_413⟩
theorem lk_L_47 : LkV AW RL 47 yX8_tick cX8_tick 3 (some .int) 1 := ⟨⟨wd_414, wd_415, wd_296, by decide, by decide, by decide⟩, wd_416, wd_417⟩
theorem lk_L_48 : LkV AW RL 48 yX7_tap cX7_tap 1 (some .int) 0 := ⟨⟨wd_418, wd_419, wd_229, by decide, by decide, by decide⟩, wd_420, wd_421⟩
theorem lk_L_52 : LkV AW RL 52 yX8_tap cX8_tap 1 (some .int) 0 := ⟨⟨wd_299, wd_422, wd_296, by decide, by decide, by decide⟩, wd_301, wd_302⟩
theorem lk_L_53 : LkV AW RL 53 yX7_about cX7_about 2 (some .int) 1 := ⟨⟨wd_279, wd_423, wd_229, by decide, by decide, by decide⟩, wd_281, wd_282⟩
theorem lk_L_56 : LkV AW RL 56 yX8_about cX8_about 2 (some .int) 1 := ⟨⟨wd_339, wd_424, wd_296, by decide, by decide, by decide⟩, wd_341, wd_342⟩
theorem lk_L_57 : LkV AW RL 57 yX7_store cX7_store 2 (some .int) 1 := ⟨⟨wd_425, wd_426, wd_229, by decide, by decide, by decide⟩, wd_427, wd_428⟩
theorem lk_L_60 : LkV AW RL 60 yX8_store cX8_store 2 (some .int) 1 := ⟨⟨wd_429, wd_430, wd_296, by decide, by decide, by decide⟩, wd_431, wd_432⟩
theorem lk_L_61 : LkV AW RL 61 yX7_pig cX7_pig 3 (some .int) 2 := ⟨⟨wd_433, wd_434, wd_229, by decide, by decide, by decide⟩, wd_435, wd_436⟩
theorem lk_L_64 : LkV AW RL 64 yX8_pig cX8_pig 3 (some .int) 2 := ⟨⟨wd_347, wd_437, wd_296, by decide, by decide, by decide⟩, wd_349, wd_350⟩
theorem lk_L_65 : LkV AW RL 65 yX7_sign cX7_sign 2 (some .int) 1 := ⟨⟨wd_438, wd_439, wd_229, by decide, by decide, by decide⟩, wd_440, wd_441⟩
theorem lk_L_68 : LkV AW RL 68 yX8_sign cX8_sign 2 (some .int) 1 := ⟨⟨wd_442, wd_443, wd_296, by decide, by decide, by decide⟩, wd_444, wd_445⟩
theorem lk_L_69 : LkV AW RL 69 yX7_lose cX7_lose 3 (some .int) 2 := ⟨⟨wd_446, wd_447, wd_229, by decide, by decide, by decide⟩, wd_448, wd_449⟩
theorem lk_L_72 : LkV AW RL 72 yX8_lose cX8_lose 3 (some .int) 2 := ⟨⟨wd_450, wd_451, wd_296, by decide, by decide, by decide⟩, wd_452, wd_453⟩
theorem lk_L_73 : LkV AW RL 73 yX7_rule cX7_rule 6 (some .int) 4 := ⟨⟨wd_454, wd_455, wd_229, by decide, by decide, by decide⟩, wd_456, wd_457⟩
theorem lk_L_77 : LkV AW RL 77 yX8_rule cX8_rule 5 (some .int) 4 := ⟨⟨wd_458, wd_459, wd_296, by decide, by decide, by decide⟩, wd_460, wd_461⟩
theorem lk_L_78 : LkV AW RL 78 yX7_unrule cX7_unrule 2 (some .int) 0 := ⟨⟨wd_462, wd_463, wd_229, by decide, by decide, by decide⟩, wd_464, wd_465⟩
theorem lk_L_81 : LkV AW RL 81 yX8_unrule cX8_unrule 2 (some .int) 0 := ⟨⟨wd_466, wd_467, wd_296, by decide, by decide, by decide⟩, wd_468, wd_469⟩
theorem lk_L_82 : LkV AW RL 82 yX7_forge cX7_forge 5 (some .int) 3 := ⟨⟨wd_470, wd_471, wd_229, by decide, by decide, by decide⟩, wd_472, wd_473⟩
theorem lk_L_86 : LkV AW RL 86 yX8_forge cX8_forge 4 (some .int) 3 := ⟨⟨wd_474, wd_475, wd_296, by decide, by decide, by decide⟩, wd_476, wd_477⟩
theorem lk_L_87 : LkV AW RL 87 yX7_sale cX7_sale 1 (some .int) 0 := ⟨⟨wd_478, wd_479, wd_229, by decide, by decide, by decide⟩, wd_480, wd_481⟩
theorem lk_L_90 : LkV AW RL 90 yX8_sale cX8_sale 1 (some .int) 0 := ⟨⟨wd_482, wd_483, wd_296, by decide, by decide, by decide⟩, wd_484, wd_485⟩
theorem lk_L_91 : LkV AW RL 91 yX7_sell cX7_sell 5 (some .int) 0 := ⟨⟨wd_486, wd_487, wd_229, by decide, by decide, by decide⟩, wd_488, wd_489⟩
theorem lk_L_94 : LkV AW RL 94 yX8_sell cX8_sell 5 (some .int) 0 := ⟨⟨wd_490, wd_491, wd_296, by decide, by decide, by decide⟩, wd_492, wd_493⟩
theorem lk_L_95 : LkV AW RL 95 yX7_month cX7_month 4 (some .int) 3 := ⟨⟨wd_494, wd_495, wd_229, by decide, by decide, by decide⟩, wd_496, wd_497⟩
theorem lk_L_98 : LkV AW RL 98 yX8_month cX8_month 4 (some .int) 3 := ⟨⟨wd_498, wd_499, wd_296, by decide, by decide, by decide⟩, wd_500, wd_501⟩
theorem lk_L_99 : LkV AW RL 99 yX7_pace cX7_pace 5 (some .int) 4 := ⟨⟨wd_502, wd_503, wd_229, by decide, by decide, by decide⟩, wd_504, wd_505⟩
theorem lk_L_102 : LkV AW RL 102 yX8_pace cX8_pace 5 (some .int) 4 := ⟨⟨wd_506, wd_507, wd_296, by decide, by decide, by decide⟩, wd_508, wd_509⟩
theorem lk_L_103 : LkV AW RL 103 yX7_plan cX7_plan 5 (some .int) 4 := ⟨⟨wd_510, wd_511, wd_229, by decide, by decide, by decide⟩, wd_512, wd_513⟩
theorem lk_L_106 : LkV AW RL 106 yX8_plan cX8_plan 10 (some .int) 4 := ⟨⟨wd_514, wd_515, wd_296, by decide, by decide, by decide⟩, wd_516, wd_517⟩
theorem lk_L_107 : LkV AW RL 107 yX7_paceAt cX7_paceAt 2 (some .int) 1 := ⟨⟨wd_518, wd_519, wd_229, by decide, by decide, by decide⟩, wd_520, wd_521⟩
theorem lk_L_110 : LkV AW RL 110 yX8_paceAt cX8_paceAt 2 (some .int) 1 := ⟨⟨wd_522, wd_523, wd_296, by decide, by decide, by decide⟩, wd_524, wd_525⟩
theorem lk_L_111 : LkV AW RL 111 yX7_count cX7_count 2 (some .int) 1 := ⟨⟨wd_275, wd_526, wd_229, by decide, by decide, by decide⟩, wd_277, wd_278⟩
theorem lk_L_114 : LkV AW RL 114 yX8_count cX8_count 4 (some .int) 1 := ⟨⟨wd_335, wd_527, wd_296, by decide, by decide, by decide⟩, wd_337, wd_338⟩
theorem lk_L_115 : LkV AW RL 115 yX7_digest cX7_digest 4 (some .long) 0 := ⟨⟨wd_528, wd_529, wd_229, by decide, by decide, by decide⟩, wd_530, wd_531⟩
theorem lk_L_119 : LkV AW RL 119 yX8_digest cX8_digest 5 (some .long) 0 := ⟨⟨wd_532, wd_533, wd_296, by decide, by decide, by decide⟩, wd_534, wd_535⟩
