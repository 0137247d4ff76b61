def TG : List Cond := lw_tbl.filter goodWord
theorem TG_in {w : Cond} (h : w ∈ TG) : w ∈ lw_tbl := (List.mem_filter.mp h).1
theorem TG_good {w : Cond} (h : w ∈ TG) : goodWord w = true := (List.mem_filter.mp h).2
theorem tbl1 {w : Cond} (h : w ∈ tables_1_1) : w ∈ lw_tbl := List.mem_append_right _ (List.mem_append_left _ h)
theorem tbl2 {w : Cond} (h : w ∈ tables_1_2) : w ∈ lw_tbl := List.mem_append_right _ (List.mem_append_right _ (List.mem_append_left _ h))
theorem tbl3 {w : Cond} (h : w ∈ tables_1_3) : w ∈ lw_tbl := List.mem_append_right _ (List.mem_append_right _ (List.mem_append_right _ h))
theorem tb1 {w : Cond} (h : w ∈ tables_1_1) (g : goodWord w = true) : w ∈ TG := List.mem_filter.mpr ⟨tbl1 h, g⟩
theorem tb2 {w : Cond} (h : w ∈ tables_1_2) (g : goodWord w = true) : w ∈ TG := List.mem_filter.mpr ⟨tbl2 h, g⟩
theorem tb3 {w : Cond} (h : w ∈ tables_1_3) (g : goodWord w = true) : w ∈ TG := List.mem_filter.mpr ⟨tbl3 h, g⟩
theorem tbs {q : MethodName × Nat} (h : q ∈ lw_privs) : Cond.selects q.1.cls q.1 q.1 ∈ TG := List.mem_filter.mpr ⟨List.mem_append_left _ (List.mem_map.mpr ⟨q, h, rfl⟩), rfl⟩
theorem tbs1 {q : MethodName × Nat} (h : q ∈ lw_privs_1) : Cond.selects q.1.cls q.1 q.1 ∈ TG := tbs (List.mem_append_left _ h)
theorem tbs2 {q : MethodName × Nat} (h : q ∈ lw_privs_2) : Cond.selects q.1.cls q.1 q.1 ∈ TG := tbs (List.mem_append_right _ h)
theorem wI_L : Cond.initialized RL ∈ TG := tb1 (List.mem_of_getElem? (i := 0) rfl) rfl
theorem wI_X5 : Cond.initialized RX5 ∈ TG := tb1 (List.mem_of_getElem? (i := 1) rfl) rfl
theorem wI_J9 : Cond.initialized RJ9 ∈ TG := tb1 (List.mem_of_getElem? (i := 2) rfl) rfl
theorem wI_Math : Cond.initialized "java/lang/Math" ∈ TG := tb1 (List.mem_of_getElem? (i := 2) rfl) rfl
theorem wI_X2 : Cond.initialized RX2 ∈ TG := tb1 (List.mem_of_getElem? (i := 3) rfl) rfl
theorem wI_X4 : Cond.initialized RX4 ∈ TG := tb1 (List.mem_of_getElem? (i := 4) rfl) rfl
theorem wI_X0 : Cond.initialized RX0 ∈ TG := tb1 (List.mem_of_getElem? (i := 5) rfl) rfl
theorem wI_X1 : Cond.initialized RX1 ∈ TG := tb1 (List.mem_of_getElem? (i := 6) rfl) rfl
theorem wI_X6 : Cond.initialized RX6 ∈ TG := tb1 (List.mem_of_getElem? (i := 7) rfl) rfl
theorem wI_X3 : Cond.initialized RX3 ∈ TG := tb1 (List.mem_of_getElem? (i := 8) rfl) rfl
theorem wI_J10 : Cond.initialized RJ10 ∈ TG := tb1 (List.mem_of_getElem? (i := 9) rfl) rfl
theorem wI_System : Cond.initialized "java/lang/System" ∈ TG := tb1 (List.mem_of_getElem? (i := 9) rfl) rfl
theorem wI_J6 : Cond.initialized RJ6 ∈ TG := tb1 (List.mem_of_getElem? (i := 10) rfl) rfl
theorem wk_L_7 : Cond.classLink RL 7 RX5 ∈ TG := tb1 (List.mem_of_getElem? (i := 11) rfl) rfl
theorem wN_X5 : Cond.instantiable RX5 4 ∈ TG := tb1 (List.mem_of_getElem? (i := 12) rfl) rfl
theorem wl_L_15 : Cond.methodLink RL 15 yX5_init ∈ TG := tb1 (List.mem_of_getElem? (i := 13) rfl) rfl
theorem wi_X5_init : Cond.instanceMethod yX5_init ∈ TG := tb1 (List.mem_of_getElem? (i := 14) rfl) rfl
theorem wc_X5_init : Cond.code yX5_init cX5_init 5 none ∈ TG := tb1 (List.mem_of_getElem? (i := 15) rfl) rfl
theorem wl_X5_1 : Cond.methodLink RX5 1 objectInit ∈ TG := tb1 (List.mem_of_getElem? (i := 16) rfl) rfl
theorem wi_objinit : Cond.instanceMethod objectInit ∈ TG := tb1 (List.mem_of_getElem? (i := 17) rfl) rfl
theorem wc_objinit : Cond.code objectInit ⟨#[0xb1]⟩ 1 none ∈ TG := tb1 (List.mem_of_getElem? (i := 18) rfl) rfl
theorem wl_X5_7 : Cond.methodLink RX5 7 Lib.Math.min.name ∈ TG := tb1 (List.mem_of_getElem? (i := 19) rfl) rfl
theorem ws_Math_min : Cond.static Lib.Math.min.name ∈ TG := tb1 (List.mem_of_getElem? (i := 20) rfl) rfl
theorem wc_Math_min : Cond.code Lib.Math.min.name Lib.Math.min.code 2 (some .int) ∈ TG := tb1 (List.mem_of_getElem? (i := 21) rfl) rfl
theorem wl_X5_13 : Cond.methodLink RX5 13 Lib.Math.max.name ∈ TG := tb1 (List.mem_of_getElem? (i := 22) rfl) rfl
theorem ws_Math_max : Cond.static Lib.Math.max.name ∈ TG := tb1 (List.mem_of_getElem? (i := 23) rfl) rfl
theorem wc_Math_max : Cond.code Lib.Math.max.name Lib.Math.max.code 2 (some .int) ∈ TG := tb1 (List.mem_of_getElem? (i := 24) rfl) rfl
theorem wk_X5_16 : Cond.classLink RX5 16 RX2 ∈ TG := tb1 (List.mem_of_getElem? (i := 25) rfl) rfl
theorem wN_X2 : Cond.instantiable RX2 7 ∈ TG := tb1 (List.mem_of_getElem? (i := 26) rfl) rfl
theorem wl_X5_18 : Cond.methodLink RX5 18 yX2_init ∈ TG := tb1 (List.mem_of_getElem? (i := 27) rfl) rfl
theorem wi_X2_init : Cond.instanceMethod yX2_init ∈ TG := tb1 (List.mem_of_getElem? (i := 28) rfl) rfl
theorem wc_X2_init : Cond.code yX2_init cX2_init 4 none ∈ TG := tb1 (List.mem_of_getElem? (i := 29) rfl) rfl
theorem wl_X2_3 : Cond.methodLink RX2 3 objectInit ∈ TG := tb1 (List.mem_of_getElem? (i := 30) rfl) rfl
theorem wl_X2_9 : Cond.methodLink RX2 9 Lib.Math.max.name ∈ TG := tb1 (List.mem_of_getElem? (i := 31) rfl) rfl
theorem wf_X2_15 : Cond.fieldLink RX2 15 "HillLayers$Rock" "columns" "I" ∈ TG := tb1 (List.mem_of_getElem? (i := 32) rfl) rfl
theorem wf_X2_21 : Cond.fieldLink RX2 21 "HillLayers$Rock" "surfaces" "I" ∈ TG := tb1 (List.mem_of_getElem? (i := 33) rfl) rfl
theorem wf_X2_24 : Cond.fieldLink RX2 24 "HillLayers$Rock" "thickFrom" "[I" ∈ TG := tb1 (List.mem_of_getElem? (i := 34) rfl) rfl
theorem wf_X2_28 : Cond.fieldLink RX2 28 "HillLayers$Rock" "thickTo" "[I" ∈ TG := tb1 (List.mem_of_getElem? (i := 35) rfl) rfl
theorem wf_X2_31 : Cond.fieldLink RX2 31 "HillLayers$Rock" "steepest" "[I" ∈ TG := tb1 (List.mem_of_getElem? (i := 36) rfl) rfl
theorem wf_X2_34 : Cond.fieldLink RX2 34 "HillLayers$Rock" "throwAfter" "[I" ∈ TG := tb1 (List.mem_of_getElem? (i := 37) rfl) rfl
theorem wf_X2_37 : Cond.fieldLink RX2 37 "HillLayers$Rock" "brokenAfter" "[Z" ∈ TG := tb1 (List.mem_of_getElem? (i := 38) rfl) rfl
theorem wa_int : Cond.arrayClass .int ∈ TG := tb1 (List.mem_of_getElem? (i := 54) rfl) rfl
theorem wa_boolean : Cond.arrayClass .boolean ∈ TG := tb1 (List.mem_of_getElem? (i := 55) rfl) rfl
theorem wk_X5_27 : Cond.classLink RX5 27 RX4 ∈ TG := tb1 (List.mem_of_getElem? (i := 56) rfl) rfl
theorem wN_X4 : Cond.instantiable RX4 2 ∈ TG := tb1 (List.mem_of_getElem? (i := 57) rfl) rfl
theorem wn_X5_29 : Cond.methodLinkNest RX5 29 yX4_init RX5 ∈ lw_tbl := tbl1 (List.mem_of_getElem? (i := 58) rfl)
theorem wi_X4_init : Cond.instanceMethod yX4_init ∈ TG := tb1 (List.mem_of_getElem? (i := 59) rfl) rfl
theorem wc_X4_init : Cond.code yX4_init cX4_init 1 none ∈ TG := tb1 (List.mem_of_getElem? (i := 60) rfl) rfl
theorem wl_X4_3 : Cond.methodLink RX4 3 objectInit ∈ TG := tb1 (List.mem_of_getElem? (i := 61) rfl) rfl
theorem wk_X4_9 : Cond.classLink RX4 9 RX3 ∈ TG := tb1 (List.mem_of_getElem? (i := 62) rfl) rfl
theorem wo_X3 : Cond.arrayOver (.object RX3) ∈ lw_tbl := tbl1 (List.mem_of_getElem? (i := 63) rfl)
theorem wf_X4_11 : Cond.fieldLink RX4 11 "HillLayers$Sights" "byNumber" "[LHillLayers$Sight;" ∈ TG := tb1 (List.mem_of_getElem? (i := 64) rfl) rfl
theorem wf_X4_17 : Cond.fieldLink RX4 17 "HillLayers$Sights" "came" "I" ∈ TG := tb1 (List.mem_of_getElem? (i := 65) rfl) rfl
theorem wk_X5_34 : Cond.classLink RX5 34 RX0 ∈ TG := tb1 (List.mem_of_getElem? (i := 71) rfl) rfl
theorem wN_X0 : Cond.instantiable RX0 9 ∈ TG := tb1 (List.mem_of_getElem? (i := 72) rfl) rfl
theorem wl_X5_36 : Cond.methodLink RX5 36 yX0_init ∈ TG := tb1 (List.mem_of_getElem? (i := 73) rfl) rfl
theorem wi_X0_init : Cond.instanceMethod yX0_init ∈ TG := tb1 (List.mem_of_getElem? (i := 74) rfl) rfl
theorem wc_X0_init : Cond.code yX0_init cX0_init 4 none ∈ TG := tb1 (List.mem_of_getElem? (i := 75) rfl) rfl
theorem wl_X0_3 : Cond.methodLink RX0 3 objectInit ∈ TG := tb1 (List.mem_of_getElem? (i := 76) rfl) rfl
theorem wk_X0_9 : Cond.classLink RX0 9 RX1 ∈ TG := tb1 (List.mem_of_getElem? (i := 77) rfl) rfl
theorem wo_X1 : Cond.arrayOver (.object RX1) ∈ lw_tbl := tbl1 (List.mem_of_getElem? (i := 78) rfl)
theorem wN_X1 : Cond.instantiable RX1 2 ∈ TG := tb1 (List.mem_of_getElem? (i := 79) rfl) rfl
theorem wl_X0_39 : Cond.methodLink RX0 39 yX2_places ∈ TG := tb1 (List.mem_of_getElem? (i := 80) rfl) rfl
theorem wi_X2_places : Cond.instanceMethod yX2_places ∈ TG := tb1 (List.mem_of_getElem? (i := 81) rfl) rfl
theorem wse_X2_places : Cond.selects RX2 yX2_places yX2_places ∈ TG := tb1 (List.mem_of_getElem? (i := 82) rfl) rfl
theorem wc_X2_places : Cond.code yX2_places cX2_places 1 (some .int) ∈ TG := tb1 (List.mem_of_getElem? (i := 83) rfl) rfl
theorem wl_X0_45 : Cond.methodLink RX0 45 yX1_init ∈ TG := tb1 (List.mem_of_getElem? (i := 84) rfl) rfl
theorem wi_X1_init : Cond.instanceMethod yX1_init ∈ TG := tb1 (List.mem_of_getElem? (i := 85) rfl) rfl
theorem wc_X1_init : Cond.code yX1_init cX1_init 2 none ∈ TG := tb1 (List.mem_of_getElem? (i := 86) rfl) rfl
theorem wl_X1_3 : Cond.methodLink RX1 3 objectInit ∈ TG := tb1 (List.mem_of_getElem? (i := 87) rfl) rfl
theorem wl_X1_11 : Cond.methodLink RX1 11 Lib.Math.min.name ∈ TG := tb1 (List.mem_of_getElem? (i := 88) rfl) rfl
theorem wl_X1_17 : Cond.methodLink RX1 17 Lib.Math.max.name ∈ TG := tb1 (List.mem_of_getElem? (i := 89) rfl) rfl
theorem wf_X1_20 : Cond.fieldLink RX1 20 "HillLayers$Gaps" "size" "I" ∈ TG := tb1 (List.mem_of_getElem? (i := 90) rfl) rfl
theorem wf_X1_24 : Cond.fieldLink RX1 24 "HillLayers$Gaps" "widths" "[I" ∈ TG := tb1 (List.mem_of_getElem? (i := 91) rfl) rfl
theorem wf_X0_31 : Cond.fieldLink RX0 31 "HillLayers$Bodies" "rock" "LHillLayers$Rock;" ∈ TG := tb1 (List.mem_of_getElem? (i := 97) rfl) rfl
theorem wf_X0_35 : Cond.fieldLink RX0 35 "HillLayers$Bodies" "sights" "LHillLayers$Sights;" ∈ TG := tb1 (List.mem_of_getElem? (i := 98) rfl) rfl
theorem wf_X0_11 : Cond.fieldLink RX0 11 "HillLayers$Bodies" "steps" "[LHillLayers$Gaps;" ∈ TG := tb1 (List.mem_of_getElem? (i := 99) rfl) rfl
theorem wf_X0_48 : Cond.fieldLink RX0 48 "HillLayers$Bodies" "withoutSights" "LHillLayers$Gaps;" ∈ TG := tb1 (List.mem_of_getElem? (i := 100) rfl) rfl
theorem wf_X0_52 : Cond.fieldLink RX0 52 "HillLayers$Bodies" "agreed" "LHillLayers$Gaps;" ∈ TG := tb1 (List.mem_of_getElem? (i := 101) rfl) rfl
theorem wf_X0_17 : Cond.fieldLink RX0 17 "HillLayers$Bodies" "rockIsBound" "Z" ∈ TG := tb1 (List.mem_of_getElem? (i := 102) rfl) rfl
theorem wf_X0_21 : Cond.fieldLink RX0 21 "HillLayers$Bodies" "quarrelIsFound" "Z" ∈ TG := tb1 (List.mem_of_getElem? (i := 103) rfl) rfl
theorem wf_X0_24 : Cond.fieldLink RX0 24 "HillLayers$Bodies" "hillStands" "Z" ∈ TG := tb1 (List.mem_of_getElem? (i := 104) rfl) rfl
theorem wf_X0_27 : Cond.fieldLink RX0 27 "HillLayers$Bodies" "leftOut" "I" ∈ TG := tb1 (List.mem_of_getElem? (i := 105) rfl) rfl
theorem wf_X5_21 : Cond.fieldLink RX5 21 "HillLayers" "rock" "LHillLayers$Rock;" ∈ TG := tb1 (List.mem_of_getElem? (i := 125) rfl) rfl
theorem wf_X5_30 : Cond.fieldLink RX5 30 "HillLayers" "sights" "LHillLayers$Sights;" ∈ TG := tb1 (List.mem_of_getElem? (i := 126) rfl) rfl
theorem wf_X5_39 : Cond.fieldLink RX5 39 "HillLayers" "bodies" "LHillLayers$Bodies;" ∈ TG := tb1 (List.mem_of_getElem? (i := 127) rfl) rfl
theorem wf_X5_43 : Cond.fieldLink RX5 43 "HillLayers" "grounds" "[I" ∈ TG := tb1 (List.mem_of_getElem? (i := 128) rfl) rfl
theorem wl_L_21 : Cond.methodLink RL 21 yX5_thick ∈ TG := tb1 (List.mem_of_getElem? (i := 138) rfl) rfl
theorem wi_X5_thick : Cond.instanceMethod yX5_thick ∈ TG := tb1 (List.mem_of_getElem? (i := 139) rfl) rfl
theorem wse_X5_thick : Cond.selects RX5 yX5_thick yX5_thick ∈ TG := tb1 (List.mem_of_getElem? (i := 140) rfl) rfl
theorem wc_X5_thick : Cond.code yX5_thick cX5_thick 4 (some .boolean) ∈ TG := tb1 (List.mem_of_getElem? (i := 141) rfl) rfl
theorem wl_X5_47 : Cond.methodLink RX5 47 yX2_hasSurface ∈ TG := tb1 (List.mem_of_getElem? (i := 142) rfl) rfl
theorem wi_X2_hasSurface : Cond.instanceMethod yX2_hasSurface ∈ TG := tb1 (List.mem_of_getElem? (i := 143) rfl) rfl
theorem wse_X2_hasSurface : Cond.selects RX2 yX2_hasSurface yX2_hasSurface ∈ TG := tb1 (List.mem_of_getElem? (i := 144) rfl) rfl
theorem wc_X2_hasSurface : Cond.code yX2_hasSurface cX2_hasSurface 2 (some .boolean) ∈ TG := tb1 (List.mem_of_getElem? (i := 145) rfl) rfl
theorem wl_X5_51 : Cond.methodLink RX5 51 yX5_isDepth ∈ TG := tb1 (List.mem_of_getElem? (i := 146) rfl) rfl
theorem ws_X5_isDepth : Cond.static yX5_isDepth ∈ TG := tb1 (List.mem_of_getElem? (i := 147) rfl) rfl
theorem wc_X5_isDepth : Cond.code yX5_isDepth cX5_isDepth 1 (some .boolean) ∈ TG := tb1 (List.mem_of_getElem? (i := 148) rfl) rfl
theorem wl_X5_54 : Cond.methodLink RX5 54 yX2_setThick ∈ TG := tb1 (List.mem_of_getElem? (i := 149) rfl) rfl
theorem wi_X2_setThick : Cond.instanceMethod yX2_setThick ∈ TG := tb1 (List.mem_of_getElem? (i := 150) rfl) rfl
theorem wse_X2_setThick : Cond.selects RX2 yX2_setThick yX2_setThick ∈ TG := tb1 (List.mem_of_getElem? (i := 151) rfl) rfl
theorem wc_X2_setThick : Cond.code yX2_setThick cX2_setThick 4 none ∈ TG := tb1 (List.mem_of_getElem? (i := 152) rfl) rfl
theorem wl_X2_41 : Cond.methodLink RX2 41 yX2_hasSurface ∈ TG := tb1 (List.mem_of_getElem? (i := 153) rfl) rfl
theorem wl_X5_58 : Cond.methodLink RX5 58 yX0_forgetRock ∈ TG := tb1 (List.mem_of_getElem? (i := 154) rfl) rfl
theorem wi_X0_forgetRock : Cond.instanceMethod yX0_forgetRock ∈ TG := tb1 (List.mem_of_getElem? (i := 155) rfl) rfl
theorem wse_X0_forgetRock : Cond.selects RX0 yX0_forgetRock yX0_forgetRock ∈ TG := tb1 (List.mem_of_getElem? (i := 156) rfl) rfl
theorem wc_X0_forgetRock : Cond.code yX0_forgetRock cX0_forgetRock 1 none ∈ TG := tb1 (List.mem_of_getElem? (i := 157) rfl) rfl
theorem wl_L_26 : Cond.methodLink RL 26 yX5_steep ∈ TG := tb1 (List.mem_of_getElem? (i := 158) rfl) rfl
theorem wi_X5_steep : Cond.instanceMethod yX5_steep ∈ TG := tb1 (List.mem_of_getElem? (i := 159) rfl) rfl
theorem wse_X5_steep : Cond.selects RX5 yX5_steep yX5_steep ∈ TG := tb1 (List.mem_of_getElem? (i := 160) rfl) rfl
theorem wc_X5_steep : Cond.code yX5_steep cX5_steep 3 (some .boolean) ∈ TG := tb1 (List.mem_of_getElem? (i := 161) rfl) rfl
theorem wl_X5_61 : Cond.methodLink RX5 61 yX2_setSteep ∈ TG := tb1 (List.mem_of_getElem? (i := 162) rfl) rfl
theorem wi_X2_setSteep : Cond.instanceMethod yX2_setSteep ∈ TG := tb1 (List.mem_of_getElem? (i := 163) rfl) rfl
theorem wse_X2_setSteep : Cond.selects RX2 yX2_setSteep yX2_setSteep ∈ TG := tb1 (List.mem_of_getElem? (i := 164) rfl) rfl
theorem wc_X2_setSteep : Cond.code yX2_setSteep cX2_setSteep 3 none ∈ TG := tb1 (List.mem_of_getElem? (i := 165) rfl) rfl
theorem wl_L_31 : Cond.methodLink RL 31 yX5_fault ∈ TG := tb1 (List.mem_of_getElem? (i := 166) rfl) rfl
theorem wi_X5_fault : Cond.instanceMethod yX5_fault ∈ TG := tb1 (List.mem_of_getElem? (i := 167) rfl) rfl
theorem wse_X5_fault : Cond.selects RX5 yX5_fault yX5_fault ∈ TG := tb1 (List.mem_of_getElem? (i := 168) rfl) rfl
theorem wc_X5_fault : Cond.code yX5_fault cX5_fault 3 (some .boolean) ∈ TG := tb1 (List.mem_of_getElem? (i := 169) rfl) rfl
theorem wl_X5_64 : Cond.methodLink RX5 64 yX2_hasNextColumn ∈ TG := tb1 (List.mem_of_getElem? (i := 170) rfl) rfl
theorem wi_X2_hasNextColumn : Cond.instanceMethod yX2_hasNextColumn ∈ TG := tb1 (List.mem_of_getElem? (i := 171) rfl) rfl
theorem wse_X2_hasNextColumn : Cond.selects RX2 yX2_hasNextColumn yX2_hasNextColumn ∈ TG := tb1 (List.mem_of_getElem? (i := 172) rfl) rfl
theorem wc_X2_hasNextColumn : Cond.code yX2_hasNextColumn cX2_hasNextColumn 2 (some .boolean) ∈ TG := tb1 (List.mem_of_getElem? (i := 173) rfl) rfl
theorem wl_X5_67 : Cond.methodLink RX5 67 yX5_isWithin ∈ TG := tb1 (List.mem_of_getElem? (i := 174) rfl) rfl
theorem ws_X5_isWithin : Cond.static yX5_isWithin ∈ TG := tb1 (List.mem_of_getElem? (i := 175) rfl) rfl
theorem wc_X5_isWithin : Cond.code yX5_isWithin cX5_isWithin 2 (some .boolean) ∈ TG := tb1 (List.mem_of_getElem? (i := 176) rfl) rfl
theorem wl_X5_71 : Cond.methodLink RX5 71 yX2_breakAt ∈ TG := tb1 (List.mem_of_getElem? (i := 177) rfl) rfl
theorem wi_X2_breakAt : Cond.instanceMethod yX2_breakAt ∈ TG := tb1 (List.mem_of_getElem? (i := 178) rfl) rfl
theorem wse_X2_breakAt : Cond.selects RX2 yX2_breakAt yX2_breakAt ∈ TG := tb1 (List.mem_of_getElem? (i := 179) rfl) rfl
theorem wc_X2_breakAt : Cond.code yX2_breakAt cX2_breakAt 3 none ∈ TG := tb1 (List.mem_of_getElem? (i := 180) rfl) rfl
theorem wl_X2_50 : Cond.methodLink RX2 50 yX2_hasNextColumn ∈ TG := tb1 (List.mem_of_getElem? (i := 181) rfl) rfl
theorem wl_L_35 : Cond.methodLink RL 35 yX5_heal ∈ TG := tb1 (List.mem_of_getElem? (i := 182) rfl) rfl
theorem wi_X5_heal : Cond.instanceMethod yX5_heal ∈ TG := tb1 (List.mem_of_getElem? (i := 183) rfl) rfl
theorem wse_X5_heal : Cond.selects RX5 yX5_heal yX5_heal ∈ TG := tb1 (List.mem_of_getElem? (i := 184) rfl) rfl
theorem wc_X5_heal : Cond.code yX5_heal cX5_heal 2 (some .boolean) ∈ TG := tb1 (List.mem_of_getElem? (i := 185) rfl) rfl
theorem wl_X5_74 : Cond.methodLink RX5 74 yX2_isBroken ∈ TG := tb1 (List.mem_of_getElem? (i := 186) rfl) rfl
theorem wi_X2_isBroken : Cond.instanceMethod yX2_isBroken ∈ TG := tb1 (List.mem_of_getElem? (i := 187) rfl) rfl
theorem wse_X2_isBroken : Cond.selects RX2 yX2_isBroken yX2_isBroken ∈ TG := tb1 (List.mem_of_getElem? (i := 188) rfl) rfl
theorem wc_X2_isBroken : Cond.code yX2_isBroken cX2_isBroken 2 (some .boolean) ∈ TG := tb1 (List.mem_of_getElem? (i := 189) rfl) rfl
theorem wl_X5_77 : Cond.methodLink RX5 77 yX2_mendAt ∈ TG := tb1 (List.mem_of_getElem? (i := 190) rfl) rfl
theorem wi_X2_mendAt : Cond.instanceMethod yX2_mendAt ∈ TG := tb1 (List.mem_of_getElem? (i := 191) rfl) rfl
theorem wse_X2_mendAt : Cond.selects RX2 yX2_mendAt yX2_mendAt ∈ TG := tb1 (List.mem_of_getElem? (i := 192) rfl) rfl
theorem wc_X2_mendAt : Cond.code yX2_mendAt cX2_mendAt 2 none ∈ TG := tb1 (List.mem_of_getElem? (i := 193) rfl) rfl
theorem wl_L_40 : Cond.methodLink RL 40 yX5_ground ∈ TG := tb1 (List.mem_of_getElem? (i := 194) rfl) rfl
theorem wi_X5_ground : Cond.instanceMethod yX5_ground ∈ TG := tb1 (List.mem_of_getElem? (i := 195) rfl) rfl
theorem wse_X5_ground : Cond.selects RX5 yX5_ground yX5_ground ∈ TG := tb1 (List.mem_of_getElem? (i := 196) rfl) rfl
theorem wc_X5_ground : Cond.code yX5_ground cX5_ground 3 (some .boolean) ∈ TG := tb1 (List.mem_of_getElem? (i := 197) rfl) rfl
theorem wl_L_44 : Cond.methodLink RL 44 yX5_sight ∈ TG := tb1 (List.mem_of_getElem? (i := 198) rfl) rfl
theorem wi_X5_sight : Cond.instanceMethod yX5_sight ∈ TG := tb1 (List.mem_of_getElem? (i := 199) rfl) rfl
theorem wse_X5_sight : Cond.selects RX5 yX5_sight yX5_sight ∈ TG := tb1 (List.mem_of_getElem? (i := 200) rfl) rfl
theorem wc_X5_sight : Cond.code yX5_sight cX5_sight 8 (some .int) ∈ TG := tb1 (List.mem_of_getElem? (i := 201) rfl) rfl
theorem wl_X5_81 : Cond.methodLink RX5 81 yX2_hasPlace ∈ TG := tb1 (List.mem_of_getElem? (i := 202) rfl) rfl
theorem wi_X2_hasPlace : Cond.instanceMethod yX2_hasPlace ∈ TG := tb1 (List.mem_of_getElem? (i := 203) rfl) rfl
theorem wse_X2_hasPlace : Cond.selects RX2 yX2_hasPlace yX2_hasPlace ∈ TG := tb1 (List.mem_of_getElem? (i := 204) rfl) rfl
theorem wc_X2_hasPlace : Cond.code yX2_hasPlace cX2_hasPlace 3 (some .boolean) ∈ TG := tb1 (List.mem_of_getElem? (i := 205) rfl) rfl
theorem wl_X2_45 : Cond.methodLink RX2 45 yX2_hasColumn ∈ TG := tb1 (List.mem_of_getElem? (i := 206) rfl) rfl
theorem wi_X2_hasColumn : Cond.instanceMethod yX2_hasColumn ∈ TG := tb1 (List.mem_of_getElem? (i := 207) rfl) rfl
theorem wse_X2_hasColumn : Cond.selects RX2 yX2_hasColumn yX2_hasColumn ∈ TG := tb1 (List.mem_of_getElem? (i := 208) rfl) rfl
theorem wc_X2_hasColumn : Cond.code yX2_hasColumn cX2_hasColumn 2 (some .boolean) ∈ TG := tb1 (List.mem_of_getElem? (i := 209) rfl) rfl
theorem wk_X5_84 : Cond.classLink RX5 84 RX3 ∈ TG := tb1 (List.mem_of_getElem? (i := 210) rfl) rfl
theorem wN_X3 : Cond.instantiable RX3 5 ∈ TG := tb1 (List.mem_of_getElem? (i := 211) rfl) rfl
theorem wl_X5_86 : Cond.methodLink RX5 86 yX3_init ∈ TG := tb1 (List.mem_of_getElem? (i := 212) rfl) rfl
theorem wi_X3_init : Cond.instanceMethod yX3_init ∈ TG := tb1 (List.mem_of_getElem? (i := 213) rfl) rfl
theorem wc_X3_init : Cond.code yX3_init cX3_init 6 none ∈ TG := tb1 (List.mem_of_getElem? (i := 214) rfl) rfl
theorem wl_X3_3 : Cond.methodLink RX3 3 objectInit ∈ TG := tb1 (List.mem_of_getElem? (i := 215) rfl) rfl
theorem wf_X3_9 : Cond.fieldLink RX3 9 "HillLayers$Sight" "surface" "I" ∈ TG := tb1 (List.mem_of_getElem? (i := 216) rfl) rfl
theorem wf_X3_15 : Cond.fieldLink RX3 15 "HillLayers$Sight" "column" "I" ∈ TG := tb1 (List.mem_of_getElem? (i := 217) rfl) rfl
theorem wf_X3_18 : Cond.fieldLink RX3 18 "HillLayers$Sight" "kind" "I" ∈ TG := tb1 (List.mem_of_getElem? (i := 218) rfl) rfl
theorem wf_X3_21 : Cond.fieldLink RX3 21 "HillLayers$Sight" "z" "I" ∈ TG := tb1 (List.mem_of_getElem? (i := 219) rfl) rfl
theorem wf_X3_24 : Cond.fieldLink RX3 24 "HillLayers$Sight" "miss" "I" ∈ TG := tb1 (List.mem_of_getElem? (i := 220) rfl) rfl
theorem wl_X5_89 : Cond.methodLink RX5 89 yX4_add ∈ TG := tb1 (List.mem_of_getElem? (i := 232) rfl) rfl
theorem wi_X4_add : Cond.instanceMethod yX4_add ∈ TG := tb1 (List.mem_of_getElem? (i := 233) rfl) rfl
theorem wse_X4_add : Cond.selects RX4 yX4_add yX4_add ∈ TG := tb1 (List.mem_of_getElem? (i := 234) rfl) rfl
theorem wc_X4_add : Cond.code yX4_add cX4_add 2 (some .int) ∈ TG := tb1 (List.mem_of_getElem? (i := 235) rfl) rfl
theorem wl_X5_93 : Cond.methodLink RX5 93 yX0_forgetQuarrel ∈ TG := tb1 (List.mem_of_getElem? (i := 236) rfl) rfl
theorem wi_X0_forgetQuarrel : Cond.instanceMethod yX0_forgetQuarrel ∈ TG := tb1 (List.mem_of_getElem? (i := 237) rfl) rfl
theorem wse_X0_forgetQuarrel : Cond.selects RX0 yX0_forgetQuarrel yX0_forgetQuarrel ∈ TG := tb1 (List.mem_of_getElem? (i := 238) rfl) rfl
theorem wc_X0_forgetQuarrel : Cond.code yX0_forgetQuarrel cX0_forgetQuarrel 1 none ∈ TG := tb1 (List.mem_of_getElem? (i := 239) rfl) rfl
theorem wl_L_49 : Cond.methodLink RL 49 yX5_take ∈ TG := tb2 (List.mem_of_getElem? (i := 0) rfl) rfl
theorem wi_X5_take : Cond.instanceMethod yX5_take ∈ TG := tb2 (List.mem_of_getElem? (i := 1) rfl) rfl
theorem wse_X5_take : Cond.selects RX5 yX5_take yX5_take ∈ TG := tb2 (List.mem_of_getElem? (i := 2) rfl) rfl
theorem wc_X5_take : Cond.code yX5_take cX5_take 2 (some .boolean) ∈ TG := tb2 (List.mem_of_getElem? (i := 3) rfl) rfl
theorem wl_X5_96 : Cond.methodLink RX5 96 yX4_remove ∈ TG := tb2 (List.mem_of_getElem? (i := 4) rfl) rfl
theorem wi_X4_remove : Cond.instanceMethod yX4_remove ∈ TG := tb2 (List.mem_of_getElem? (i := 5) rfl) rfl
theorem wse_X4_remove : Cond.selects RX4 yX4_remove yX4_remove ∈ TG := tb2 (List.mem_of_getElem? (i := 6) rfl) rfl
theorem wc_X4_remove : Cond.code yX4_remove cX4_remove 2 (some .boolean) ∈ TG := tb2 (List.mem_of_getElem? (i := 7) rfl) rfl
theorem wl_X4_21 : Cond.methodLink RX4 21 yX4_at ∈ TG := tb2 (List.mem_of_getElem? (i := 8) rfl) rfl
theorem wi_X4_at : Cond.instanceMethod yX4_at ∈ TG := tb2 (List.mem_of_getElem? (i := 9) rfl) rfl
theorem wse_X4_at : Cond.selects RX4 yX4_at yX4_at ∈ TG := tb2 (List.mem_of_getElem? (i := 10) rfl) rfl
theorem wc_X4_at : Cond.code yX4_at cX4_at 2 (some (.object "HillLayers$Sight")) ∈ TG := tb2 (List.mem_of_getElem? (i := 11) rfl) rfl
theorem wl_L_53 : Cond.methodLink RL 53 yX5_quarrel ∈ TG := tb2 (List.mem_of_getElem? (i := 12) rfl) rfl
theorem wi_X5_quarrel : Cond.instanceMethod yX5_quarrel ∈ TG := tb2 (List.mem_of_getElem? (i := 13) rfl) rfl
theorem wse_X5_quarrel : Cond.selects RX5 yX5_quarrel yX5_quarrel ∈ TG := tb2 (List.mem_of_getElem? (i := 14) rfl) rfl
theorem wc_X5_quarrel : Cond.code yX5_quarrel cX5_quarrel 1 (some .int) ∈ TG := tb2 (List.mem_of_getElem? (i := 15) rfl) rfl
theorem wl_X5_99 : Cond.methodLink RX5 99 yX0_areSome ∈ TG := tb2 (List.mem_of_getElem? (i := 16) rfl) rfl
theorem wi_X0_areSome : Cond.instanceMethod yX0_areSome ∈ TG := tb2 (List.mem_of_getElem? (i := 17) rfl) rfl
theorem wse_X0_areSome : Cond.selects RX0 yX0_areSome yX0_areSome ∈ TG := tb2 (List.mem_of_getElem? (i := 18) rfl) rfl
theorem wc_X0_areSome : Cond.code yX0_areSome cX0_areSome 1 (some .boolean) ∈ TG := tb2 (List.mem_of_getElem? (i := 19) rfl) rfl
theorem wl_X0_55 : Cond.methodLink RX0 55 yX1_clear ∈ TG := tb2 (List.mem_of_getElem? (i := 20) rfl) rfl
theorem wi_X1_clear : Cond.instanceMethod yX1_clear ∈ TG := tb2 (List.mem_of_getElem? (i := 21) rfl) rfl
theorem wse_X1_clear : Cond.selects RX1 yX1_clear yX1_clear ∈ TG := tb2 (List.mem_of_getElem? (i := 22) rfl) rfl
theorem wc_X1_clear : Cond.code yX1_clear cX1_clear 4 none ∈ TG := tb2 (List.mem_of_getElem? (i := 23) rfl) rfl
theorem wl_X0_58 : Cond.methodLink RX0 58 yX2_bind ∈ TG := tb2 (List.mem_of_getElem? (i := 24) rfl) rfl
theorem wi_X2_bind : Cond.instanceMethod yX2_bind ∈ TG := tb2 (List.mem_of_getElem? (i := 25) rfl) rfl
theorem wse_X2_bind : Cond.selects RX2 yX2_bind yX2_bind ∈ TG := tb2 (List.mem_of_getElem? (i := 26) rfl) rfl
theorem wc_X2_bind : Cond.code yX2_bind cX2_bind 4 (some .boolean) ∈ TG := tb2 (List.mem_of_getElem? (i := 27) rfl) rfl
theorem wl_X2_56 : Cond.methodLink RX2 56 yX2_bindThick ∈ TG := tb2 (List.mem_of_getElem? (i := 28) rfl) rfl
theorem wi_X2_bindThick : Cond.instanceMethod yX2_bindThick ∈ TG := tb2 (List.mem_of_getElem? (i := 30) rfl) rfl
theorem wc_X2_bindThick : Cond.code yX2_bindThick cX2_bindThick 6 (some .boolean) ∈ TG := tb2 (List.mem_of_getElem? (i := 31) rfl) rfl
theorem wl_X2_63 : Cond.methodLink RX2 63 yX2_hasPlace ∈ TG := tb2 (List.mem_of_getElem? (i := 32) rfl) rfl
theorem wl_X2_67 : Cond.methodLink RX2 67 yX2_placeOf ∈ TG := tb2 (List.mem_of_getElem? (i := 33) rfl) rfl
theorem wi_X2_placeOf : Cond.instanceMethod yX2_placeOf ∈ TG := tb2 (List.mem_of_getElem? (i := 34) rfl) rfl
theorem wse_X2_placeOf : Cond.selects RX2 yX2_placeOf yX2_placeOf ∈ TG := tb2 (List.mem_of_getElem? (i := 35) rfl) rfl
theorem wc_X2_placeOf : Cond.code yX2_placeOf cX2_placeOf 3 (some .int) ∈ TG := tb2 (List.mem_of_getElem? (i := 36) rfl) rfl
theorem wl_X2_70 : Cond.methodLink RX2 70 yX1_hold ∈ TG := tb2 (List.mem_of_getElem? (i := 37) rfl) rfl
theorem wi_X1_hold : Cond.instanceMethod yX1_hold ∈ TG := tb2 (List.mem_of_getElem? (i := 38) rfl) rfl
theorem wse_X1_hold : Cond.selects RX1 yX1_hold yX1_hold ∈ TG := tb2 (List.mem_of_getElem? (i := 39) rfl) rfl
theorem wc_X1_hold : Cond.code yX1_hold cX1_hold 5 (some .boolean) ∈ TG := tb2 (List.mem_of_getElem? (i := 40) rfl) rfl
theorem wl_X1_34 : Cond.methodLink RX1 34 yX1_isPlace ∈ TG := tb2 (List.mem_of_getElem? (i := 41) rfl) rfl
theorem wi_X1_isPlace : Cond.instanceMethod yX1_isPlace ∈ TG := tb2 (List.mem_of_getElem? (i := 43) rfl) rfl
theorem wc_X1_isPlace : Cond.code yX1_isPlace cX1_isPlace 2 (some .boolean) ∈ TG := tb2 (List.mem_of_getElem? (i := 44) rfl) rfl
theorem wl_X1_41 : Cond.methodLink RX1 41 yX1_narrow ∈ TG := tb2 (List.mem_of_getElem? (i := 45) rfl) rfl
theorem wi_X1_narrow : Cond.instanceMethod yX1_narrow ∈ TG := tb2 (List.mem_of_getElem? (i := 47) rfl) rfl
theorem wc_X1_narrow : Cond.code yX1_narrow cX1_narrow 8 none ∈ TG := tb2 (List.mem_of_getElem? (i := 48) rfl) rfl
theorem wl_X2_60 : Cond.methodLink RX2 60 yX2_bindStep ∈ TG := tb2 (List.mem_of_getElem? (i := 49) rfl) rfl
theorem wi_X2_bindStep : Cond.instanceMethod yX2_bindStep ∈ TG := tb2 (List.mem_of_getElem? (i := 51) rfl) rfl
theorem wc_X2_bindStep : Cond.code yX2_bindStep cX2_bindStep 8 (some .boolean) ∈ TG := tb2 (List.mem_of_getElem? (i := 52) rfl) rfl
theorem wl_X0_62 : Cond.methodLink RX0 62 yX0_findQuarrel ∈ TG := tb2 (List.mem_of_getElem? (i := 53) rfl) rfl
theorem wi_X0_findQuarrel : Cond.instanceMethod yX0_findQuarrel ∈ TG := tb2 (List.mem_of_getElem? (i := 55) rfl) rfl
theorem wc_X0_findQuarrel : Cond.code yX0_findQuarrel cX0_findQuarrel 1 none ∈ TG := tb2 (List.mem_of_getElem? (i := 56) rfl) rfl
theorem wl_X0_65 : Cond.methodLink RX0 65 yX4_heap ∈ TG := tb2 (List.mem_of_getElem? (i := 57) rfl) rfl
theorem wi_X4_heap : Cond.instanceMethod yX4_heap ∈ TG := tb2 (List.mem_of_getElem? (i := 58) rfl) rfl
theorem wse_X4_heap : Cond.selects RX4 yX4_heap yX4_heap ∈ TG := tb2 (List.mem_of_getElem? (i := 59) rfl) rfl
theorem wc_X4_heap : Cond.code yX4_heap cX4_heap 3 (some .int) ∈ TG := tb2 (List.mem_of_getElem? (i := 60) rfl) rfl
theorem wl_X0_70 : Cond.methodLink RX0 70 yX1_copyFrom ∈ TG := tb2 (List.mem_of_getElem? (i := 61) rfl) rfl
theorem wi_X1_copyFrom : Cond.instanceMethod yX1_copyFrom ∈ TG := tb2 (List.mem_of_getElem? (i := 62) rfl) rfl
theorem wse_X1_copyFrom : Cond.selects RX1 yX1_copyFrom yX1_copyFrom ∈ TG := tb2 (List.mem_of_getElem? (i := 63) rfl) rfl
theorem wc_X1_copyFrom : Cond.code yX1_copyFrom cX1_copyFrom 2 none ∈ TG := tb2 (List.mem_of_getElem? (i := 64) rfl) rfl
theorem wl_X1_28 : Cond.methodLink RX1 28 arraycopyName ∈ TG := tb2 (List.mem_of_getElem? (i := 65) rfl) rfl
theorem ws_arraycopy : Cond.static arraycopyName ∈ TG := tb2 (List.mem_of_getElem? (i := 66) rfl) rfl
theorem wnat_arraycopy : Cond.native arraycopyName ∈ TG := tb2 (List.mem_of_getElem? (i := 67) rfl) rfl
theorem wl_X0_74 : Cond.methodLink RX0 74 yX4_came ∈ TG := tb2 (List.mem_of_getElem? (i := 68) rfl) rfl
theorem wi_X4_came : Cond.instanceMethod yX4_came ∈ TG := tb2 (List.mem_of_getElem? (i := 69) rfl) rfl
theorem wse_X4_came : Cond.selects RX4 yX4_came yX4_came ∈ TG := tb2 (List.mem_of_getElem? (i := 70) rfl) rfl
theorem wc_X4_came : Cond.code yX4_came cX4_came 1 (some .int) ∈ TG := tb2 (List.mem_of_getElem? (i := 71) rfl) rfl
theorem wl_X0_77 : Cond.methodLink RX0 77 Lib.Math.min.name ∈ TG := tb2 (List.mem_of_getElem? (i := 72) rfl) rfl
theorem wl_X0_83 : Cond.methodLink RX0 83 yX0_decide ∈ TG := tb2 (List.mem_of_getElem? (i := 73) rfl) rfl
theorem ws_X0_decide : Cond.static yX0_decide ∈ TG := tb2 (List.mem_of_getElem? (i := 74) rfl) rfl
theorem wc_X0_decide : Cond.code yX0_decide cX0_decide 7 none ∈ TG := tb2 (List.mem_of_getElem? (i := 75) rfl) rfl
theorem wl_X0_87 : Cond.methodLink RX0 87 yJ6_bitCount_0f7a4 ∈ TG := tb2 (List.mem_of_getElem? (i := 76) rfl) rfl
theorem ws_J6_bitCount_0f7a4 : Cond.static yJ6_bitCount_0f7a4 ∈ TG := tb2 (List.mem_of_getElem? (i := 77) rfl) rfl
theorem wc_J6_bitCount_0f7a4 : Cond.code yJ6_bitCount_0f7a4 cJ6_bitCount_0f7a4 1 (some .int) ∈ TG := tb2 (List.mem_of_getElem? (i := 78) rfl) rfl
theorem wv_J6_265 : Cond.constant RJ6 265 1431655765 ∈ TG := tb2 (List.mem_of_getElem? (i := 79) rfl) rfl
theorem wv_J6_266 : Cond.constant RJ6 266 858993459 ∈ TG := tb2 (List.mem_of_getElem? (i := 80) rfl) rfl
theorem wv_J6_267 : Cond.constant RJ6 267 252645135 ∈ TG := tb2 (List.mem_of_getElem? (i := 81) rfl) rfl
theorem wl_X0_93 : Cond.methodLink RX0 93 yX4_at ∈ TG := tb2 (List.mem_of_getElem? (i := 82) rfl) rfl
theorem wl_X0_97 : Cond.methodLink RX0 97 yX3_bind ∈ TG := tb2 (List.mem_of_getElem? (i := 83) rfl) rfl
theorem wi_X3_bind : Cond.instanceMethod yX3_bind ∈ TG := tb2 (List.mem_of_getElem? (i := 84) rfl) rfl
theorem wse_X3_bind : Cond.selects RX3 yX3_bind yX3_bind ∈ TG := tb2 (List.mem_of_getElem? (i := 85) rfl) rfl
theorem wc_X3_bind : Cond.code yX3_bind cX3_bind 4 (some .boolean) ∈ TG := tb2 (List.mem_of_getElem? (i := 86) rfl) rfl
theorem wl_X3_27 : Cond.methodLink RX3 27 yX2_placeOf ∈ TG := tb2 (List.mem_of_getElem? (i := 87) rfl) rfl
theorem wl_X3_35 : Cond.methodLink RX3 35 yX1_hold ∈ TG := tb2 (List.mem_of_getElem? (i := 88) rfl) rfl
theorem wl_X5_103 : Cond.methodLink RX5 103 yX0_leftOut ∈ TG := tb2 (List.mem_of_getElem? (i := 89) rfl) rfl
theorem wi_X0_leftOut : Cond.instanceMethod yX0_leftOut ∈ TG := tb2 (List.mem_of_getElem? (i := 90) rfl) rfl
theorem wse_X0_leftOut : Cond.selects RX0 yX0_leftOut yX0_leftOut ∈ TG := tb2 (List.mem_of_getElem? (i := 91) rfl) rfl
theorem wc_X0_leftOut : Cond.code yX0_leftOut cX0_leftOut 1 (some .int) ∈ TG := tb2 (List.mem_of_getElem? (i := 92) rfl) rfl
theorem wl_L_58 : Cond.methodLink RL 58 yX5_span ∈ TG := tb2 (List.mem_of_getElem? (i := 93) rfl) rfl
theorem wi_X5_span : Cond.instanceMethod yX5_span ∈ TG := tb2 (List.mem_of_getElem? (i := 94) rfl) rfl
theorem wse_X5_span : Cond.selects RX5 yX5_span yX5_span ∈ TG := tb2 (List.mem_of_getElem? (i := 95) rfl) rfl
theorem wc_X5_span : Cond.code yX5_span cX5_span 4 (some .int) ∈ TG := tb2 (List.mem_of_getElem? (i := 96) rfl) rfl
theorem wl_X5_107 : Cond.methodLink RX5 107 yX5_isEnd ∈ TG := tb2 (List.mem_of_getElem? (i := 97) rfl) rfl
theorem ws_X5_isEnd : Cond.static yX5_isEnd ∈ TG := tb2 (List.mem_of_getElem? (i := 98) rfl) rfl
theorem wc_X5_isEnd : Cond.code yX5_isEnd cX5_isEnd 1 (some .boolean) ∈ TG := tb2 (List.mem_of_getElem? (i := 99) rfl) rfl
theorem wl_X5_110 : Cond.methodLink RX5 110 yX2_placeOf ∈ TG := tb2 (List.mem_of_getElem? (i := 100) rfl) rfl
theorem wl_X5_113 : Cond.methodLink RX5 113 yX5_end ∈ TG := tb2 (List.mem_of_getElem? (i := 101) rfl) rfl
theorem wi_X5_end : Cond.instanceMethod yX5_end ∈ TG := tb2 (List.mem_of_getElem? (i := 103) rfl) rfl
theorem wc_X5_end : Cond.code yX5_end cX5_end 4 (some .int) ∈ TG := tb2 (List.mem_of_getElem? (i := 104) rfl) rfl
theorem wl_X5_116 : Cond.methodLink RX5 116 yX0_agreed ∈ TG := tb2 (List.mem_of_getElem? (i := 105) rfl) rfl
theorem wi_X0_agreed : Cond.instanceMethod yX0_agreed ∈ TG := tb2 (List.mem_of_getElem? (i := 106) rfl) rfl
theorem wse_X0_agreed : Cond.selects RX0 yX0_agreed yX0_agreed ∈ TG := tb2 (List.mem_of_getElem? (i := 107) rfl) rfl
theorem wc_X0_agreed : Cond.code yX0_agreed cX0_agreed 1 (some (.object "HillLayers$Gaps")) ∈ TG := tb2 (List.mem_of_getElem? (i := 108) rfl) rfl
theorem wl_X5_175 : Cond.methodLink RX5 175 yX1_least ∈ TG := tb2 (List.mem_of_getElem? (i := 109) rfl) rfl
theorem wi_X1_least : Cond.instanceMethod yX1_least ∈ TG := tb2 (List.mem_of_getElem? (i := 110) rfl) rfl
theorem wse_X1_least : Cond.selects RX1 yX1_least yX1_least ∈ TG := tb2 (List.mem_of_getElem? (i := 111) rfl) rfl
theorem wc_X1_least : Cond.code yX1_least cX1_least 2 (some .int) ∈ TG := tb2 (List.mem_of_getElem? (i := 112) rfl) rfl
theorem wl_X1_38 : Cond.methodLink RX1 38 yX1_most ∈ TG := tb2 (List.mem_of_getElem? (i := 113) rfl) rfl
theorem wi_X1_most : Cond.instanceMethod yX1_most ∈ TG := tb2 (List.mem_of_getElem? (i := 114) rfl) rfl
theorem wse_X1_most : Cond.selects RX1 yX1_most yX1_most ∈ TG := tb2 (List.mem_of_getElem? (i := 115) rfl) rfl
theorem wc_X1_most : Cond.code yX1_most cX1_most 3 (some .int) ∈ TG := tb2 (List.mem_of_getElem? (i := 116) rfl) rfl
theorem wl_X5_178 : Cond.methodLink RX5 178 yX1_greatest ∈ TG := tb2 (List.mem_of_getElem? (i := 117) rfl) rfl
theorem wi_X1_greatest : Cond.instanceMethod yX1_greatest ∈ TG := tb2 (List.mem_of_getElem? (i := 118) rfl) rfl
theorem wse_X1_greatest : Cond.selects RX1 yX1_greatest yX1_greatest ∈ TG := tb2 (List.mem_of_getElem? (i := 119) rfl) rfl
theorem wc_X1_greatest : Cond.code yX1_greatest cX1_greatest 2 (some .int) ∈ TG := tb2 (List.mem_of_getElem? (i := 120) rfl) rfl
theorem wl_L_62 : Cond.methodLink RL 62 yX5_open ∈ TG := tb2 (List.mem_of_getElem? (i := 121) rfl) rfl
theorem wi_X5_open : Cond.instanceMethod yX5_open ∈ TG := tb2 (List.mem_of_getElem? (i := 122) rfl) rfl
theorem wse_X5_open : Cond.selects RX5 yX5_open yX5_open ∈ TG := tb2 (List.mem_of_getElem? (i := 123) rfl) rfl
theorem wc_X5_open : Cond.code yX5_open cX5_open 1 (some .int) ∈ TG := tb2 (List.mem_of_getElem? (i := 124) rfl) rfl
theorem wl_X5_120 : Cond.methodLink RX5 120 yX1_openSum ∈ TG := tb2 (List.mem_of_getElem? (i := 125) rfl) rfl
theorem wi_X1_openSum : Cond.instanceMethod yX1_openSum ∈ TG := tb2 (List.mem_of_getElem? (i := 126) rfl) rfl
theorem wse_X1_openSum : Cond.selects RX1 yX1_openSum yX1_openSum ∈ TG := tb2 (List.mem_of_getElem? (i := 127) rfl) rfl
theorem wc_X1_openSum : Cond.code yX1_openSum cX1_openSum 3 (some .int) ∈ TG := tb2 (List.mem_of_getElem? (i := 128) rfl) rfl
theorem wl_X1_45 : Cond.methodLink RX1 45 yX1_greatest ∈ TG := tb2 (List.mem_of_getElem? (i := 129) rfl) rfl
theorem wl_X1_49 : Cond.methodLink RX1 49 yX1_least ∈ TG := tb2 (List.mem_of_getElem? (i := 130) rfl) rfl
theorem wl_L_66 : Cond.methodLink RL 66 yX5_layer ∈ TG := tb2 (List.mem_of_getElem? (i := 131) rfl) rfl
theorem wi_X5_layer : Cond.instanceMethod yX5_layer ∈ TG := tb2 (List.mem_of_getElem? (i := 132) rfl) rfl
theorem wse_X5_layer : Cond.selects RX5 yX5_layer yX5_layer ∈ TG := tb2 (List.mem_of_getElem? (i := 133) rfl) rfl
theorem wc_X5_layer : Cond.code yX5_layer cX5_layer 7 (some .int) ∈ TG := tb2 (List.mem_of_getElem? (i := 134) rfl) rfl
theorem wl_X5_125 : Cond.methodLink RX5 125 yX2_surfaces ∈ TG := tb2 (List.mem_of_getElem? (i := 135) rfl) rfl
theorem wi_X2_surfaces : Cond.instanceMethod yX2_surfaces ∈ TG := tb2 (List.mem_of_getElem? (i := 136) rfl) rfl
theorem wse_X2_surfaces : Cond.selects RX2 yX2_surfaces yX2_surfaces ∈ TG := tb2 (List.mem_of_getElem? (i := 137) rfl) rfl
theorem wc_X2_surfaces : Cond.code yX2_surfaces cX2_surfaces 1 (some .int) ∈ TG := tb2 (List.mem_of_getElem? (i := 138) rfl) rfl
theorem wl_L_71 : Cond.methodLink RL 71 yX5_between ∈ TG := tb2 (List.mem_of_getElem? (i := 139) rfl) rfl
theorem wi_X5_between : Cond.instanceMethod yX5_between ∈ TG := tb2 (List.mem_of_getElem? (i := 140) rfl) rfl
theorem wse_X5_between : Cond.selects RX5 yX5_between yX5_between ∈ TG := tb2 (List.mem_of_getElem? (i := 141) rfl) rfl
theorem wc_X5_between : Cond.code yX5_between cX5_between 7 (some .int) ∈ TG := tb2 (List.mem_of_getElem? (i := 142) rfl) rfl
theorem wl_X5_128 : Cond.methodLink RX5 128 yX5_isPlaceCode ∈ TG := tb2 (List.mem_of_getElem? (i := 143) rfl) rfl
theorem wi_X5_isPlaceCode : Cond.instanceMethod yX5_isPlaceCode ∈ TG := tb2 (List.mem_of_getElem? (i := 145) rfl) rfl
theorem wc_X5_isPlaceCode : Cond.code yX5_isPlaceCode cX5_isPlaceCode 2 (some .boolean) ∈ TG := tb2 (List.mem_of_getElem? (i := 146) rfl) rfl
theorem wv_X5_131 : Cond.constant RX5 131 (-2147483648) ∈ TG := tb2 (List.mem_of_getElem? (i := 147) rfl) rfl
theorem wl_X5_132 : Cond.methodLink RX5 132 yX1_most ∈ TG := tb2 (List.mem_of_getElem? (i := 148) rfl) rfl
theorem wl_L_75 : Cond.methodLink RL 75 yX5_worn ∈ TG := tb2 (List.mem_of_getElem? (i := 149) rfl) rfl
theorem wi_X5_worn : Cond.instanceMethod yX5_worn ∈ TG := tb2 (List.mem_of_getElem? (i := 150) rfl) rfl
theorem wse_X5_worn : Cond.selects RX5 yX5_worn yX5_worn ∈ TG := tb2 (List.mem_of_getElem? (i := 151) rfl) rfl
theorem wc_X5_worn : Cond.code yX5_worn cX5_worn 4 (some .int) ∈ TG := tb2 (List.mem_of_getElem? (i := 152) rfl) rfl
theorem wl_L_79 : Cond.methodLink RL 79 yX5_tells ∈ TG := tb2 (List.mem_of_getElem? (i := 153) rfl) rfl
theorem wi_X5_tells : Cond.instanceMethod yX5_tells ∈ TG := tb2 (List.mem_of_getElem? (i := 154) rfl) rfl
theorem wse_X5_tells : Cond.selects RX5 yX5_tells yX5_tells ∈ TG := tb2 (List.mem_of_getElem? (i := 155) rfl) rfl
theorem wc_X5_tells : Cond.code yX5_tells cX5_tells 3 (some .int) ∈ TG := tb2 (List.mem_of_getElem? (i := 156) rfl) rfl
theorem wl_X5_135 : Cond.methodLink RX5 135 yX5_gain ∈ TG := tb2 (List.mem_of_getElem? (i := 157) rfl) rfl
theorem wi_X5_gain : Cond.instanceMethod yX5_gain ∈ TG := tb2 (List.mem_of_getElem? (i := 159) rfl) rfl
theorem wc_X5_gain : Cond.code yX5_gain cX5_gain 6 (some .int) ∈ TG := tb2 (List.mem_of_getElem? (i := 160) rfl) rfl
theorem wl_X5_181 : Cond.methodLink RX5 181 yX1_openSumAfterBore ∈ TG := tb2 (List.mem_of_getElem? (i := 161) rfl) rfl
theorem wi_X1_openSumAfterBore : Cond.instanceMethod yX1_openSumAfterBore ∈ TG := tb2 (List.mem_of_getElem? (i := 162) rfl) rfl
theorem wse_X1_openSumAfterBore : Cond.selects RX1 yX1_openSumAfterBore yX1_openSumAfterBore ∈ TG := tb2 (List.mem_of_getElem? (i := 163) rfl) rfl
theorem wc_X1_openSumAfterBore : Cond.code yX1_openSumAfterBore cX1_openSumAfterBore 7 (some .int) ∈ TG := tb2 (List.mem_of_getElem? (i := 164) rfl) rfl
theorem wl_L_83 : Cond.methodLink RL 83 yX5_next ∈ TG := tb2 (List.mem_of_getElem? (i := 165) rfl) rfl
theorem wi_X5_next : Cond.instanceMethod yX5_next ∈ TG := tb2 (List.mem_of_getElem? (i := 166) rfl) rfl
theorem wse_X5_next : Cond.selects RX5 yX5_next yX5_next ∈ TG := tb2 (List.mem_of_getElem? (i := 167) rfl) rfl
theorem wc_X5_next : Cond.code yX5_next cX5_next 6 (some .int) ∈ TG := tb2 (List.mem_of_getElem? (i := 168) rfl) rfl
theorem wl_X5_139 : Cond.methodLink RX5 139 yX2_columns ∈ TG := tb2 (List.mem_of_getElem? (i := 169) rfl) rfl
theorem wi_X2_columns : Cond.instanceMethod yX2_columns ∈ TG := tb2 (List.mem_of_getElem? (i := 170) rfl) rfl
theorem wse_X2_columns : Cond.selects RX2 yX2_columns yX2_columns ∈ TG := tb2 (List.mem_of_getElem? (i := 171) rfl) rfl
theorem wc_X2_columns : Cond.code yX2_columns cX2_columns 1 (some .int) ∈ TG := tb2 (List.mem_of_getElem? (i := 172) rfl) rfl
theorem wl_L_87 : Cond.methodLink RL 87 yX5_bend ∈ TG := tb2 (List.mem_of_getElem? (i := 173) rfl) rfl
theorem wi_X5_bend : Cond.instanceMethod yX5_bend ∈ TG := tb2 (List.mem_of_getElem? (i := 174) rfl) rfl
theorem wse_X5_bend : Cond.selects RX5 yX5_bend yX5_bend ∈ TG := tb2 (List.mem_of_getElem? (i := 175) rfl) rfl
theorem wc_X5_bend : Cond.code yX5_bend cX5_bend 8 (some .int) ∈ TG := tb2 (List.mem_of_getElem? (i := 176) rfl) rfl
theorem wl_X5_142 : Cond.methodLink RX5 142 Lib.Math.abs.name ∈ TG := tb2 (List.mem_of_getElem? (i := 177) rfl) rfl
theorem ws_Math_abs : Cond.static Lib.Math.abs.name ∈ TG := tb2 (List.mem_of_getElem? (i := 178) rfl) rfl
theorem wc_Math_abs : Cond.code Lib.Math.abs.name Lib.Math.abs.code 1 (some .int) ∈ TG := tb2 (List.mem_of_getElem? (i := 179) rfl) rfl
theorem wl_L_92 : Cond.methodLink RL 92 yX5_told ∈ TG := tb2 (List.mem_of_getElem? (i := 180) rfl) rfl
theorem wi_X5_told : Cond.instanceMethod yX5_told ∈ TG := tb2 (List.mem_of_getElem? (i := 181) rfl) rfl
theorem wse_X5_told : Cond.selects RX5 yX5_told yX5_told ∈ TG := tb2 (List.mem_of_getElem? (i := 182) rfl) rfl
theorem wc_X5_told : Cond.code yX5_told cX5_told 4 (some .int) ∈ TG := tb2 (List.mem_of_getElem? (i := 183) rfl) rfl
theorem wl_X5_145 : Cond.methodLink RX5 145 yX4_at ∈ TG := tb2 (List.mem_of_getElem? (i := 184) rfl) rfl
theorem wl_X5_149 : Cond.methodLink RX5 149 yX3_surface ∈ TG := tb2 (List.mem_of_getElem? (i := 185) rfl) rfl
theorem wi_X3_surface : Cond.instanceMethod yX3_surface ∈ TG := tb2 (List.mem_of_getElem? (i := 186) rfl) rfl
theorem wse_X3_surface : Cond.selects RX3 yX3_surface yX3_surface ∈ TG := tb2 (List.mem_of_getElem? (i := 187) rfl) rfl
theorem wc_X3_surface : Cond.code yX3_surface cX3_surface 1 (some .int) ∈ TG := tb2 (List.mem_of_getElem? (i := 188) rfl) rfl
theorem wl_X5_152 : Cond.methodLink RX5 152 yX3_column ∈ TG := tb2 (List.mem_of_getElem? (i := 189) rfl) rfl
theorem wi_X3_column : Cond.instanceMethod yX3_column ∈ TG := tb2 (List.mem_of_getElem? (i := 190) rfl) rfl
theorem wse_X3_column : Cond.selects RX3 yX3_column yX3_column ∈ TG := tb2 (List.mem_of_getElem? (i := 191) rfl) rfl
theorem wc_X3_column : Cond.code yX3_column cX3_column 1 (some .int) ∈ TG := tb2 (List.mem_of_getElem? (i := 192) rfl) rfl
theorem wl_X5_155 : Cond.methodLink RX5 155 yX3_kind ∈ TG := tb2 (List.mem_of_getElem? (i := 193) rfl) rfl
theorem wi_X3_kind : Cond.instanceMethod yX3_kind ∈ TG := tb2 (List.mem_of_getElem? (i := 194) rfl) rfl
theorem wse_X3_kind : Cond.selects RX3 yX3_kind yX3_kind ∈ TG := tb2 (List.mem_of_getElem? (i := 195) rfl) rfl
theorem wc_X3_kind : Cond.code yX3_kind cX3_kind 1 (some .int) ∈ TG := tb2 (List.mem_of_getElem? (i := 196) rfl) rfl
theorem wl_X5_158 : Cond.methodLink RX5 158 yX3_z ∈ TG := tb2 (List.mem_of_getElem? (i := 197) rfl) rfl
theorem wi_X3_z : Cond.instanceMethod yX3_z ∈ TG := tb2 (List.mem_of_getElem? (i := 198) rfl) rfl
theorem wse_X3_z : Cond.selects RX3 yX3_z yX3_z ∈ TG := tb2 (List.mem_of_getElem? (i := 199) rfl) rfl
theorem wc_X3_z : Cond.code yX3_z cX3_z 1 (some .int) ∈ TG := tb2 (List.mem_of_getElem? (i := 200) rfl) rfl
theorem wl_X5_161 : Cond.methodLink RX5 161 yX3_miss ∈ TG := tb2 (List.mem_of_getElem? (i := 201) rfl) rfl
theorem wi_X3_miss : Cond.instanceMethod yX3_miss ∈ TG := tb2 (List.mem_of_getElem? (i := 202) rfl) rfl
theorem wse_X3_miss : Cond.selects RX3 yX3_miss yX3_miss ∈ TG := tb2 (List.mem_of_getElem? (i := 203) rfl) rfl
theorem wc_X3_miss : Cond.code yX3_miss cX3_miss 1 (some .int) ∈ TG := tb2 (List.mem_of_getElem? (i := 204) rfl) rfl
theorem wl_L_96 : Cond.methodLink RL 96 yX5_count ∈ TG := tb2 (List.mem_of_getElem? (i := 205) rfl) rfl
theorem wi_X5_count : Cond.instanceMethod yX5_count ∈ TG := tb2 (List.mem_of_getElem? (i := 206) rfl) rfl
theorem wse_X5_count : Cond.selects RX5 yX5_count yX5_count ∈ TG := tb2 (List.mem_of_getElem? (i := 207) rfl) rfl
theorem wc_X5_count : Cond.code yX5_count cX5_count 2 (some .int) ∈ TG := tb2 (List.mem_of_getElem? (i := 208) rfl) rfl
theorem wl_X5_164 : Cond.methodLink RX5 164 yX4_heap ∈ TG := tb2 (List.mem_of_getElem? (i := 209) rfl) rfl
theorem wl_X5_167 : Cond.methodLink RX5 167 yJ6_bitCount_0f7a4 ∈ TG := tb2 (List.mem_of_getElem? (i := 210) rfl) rfl
theorem wl_X5_172 : Cond.methodLink RX5 172 yX2_faults ∈ TG := tb2 (List.mem_of_getElem? (i := 211) rfl) rfl
theorem wi_X2_faults : Cond.instanceMethod yX2_faults ∈ TG := tb2 (List.mem_of_getElem? (i := 212) rfl) rfl
theorem wse_X2_faults : Cond.selects RX2 yX2_faults yX2_faults ∈ TG := tb2 (List.mem_of_getElem? (i := 213) rfl) rfl
theorem wc_X2_faults : Cond.code yX2_faults cX2_faults 3 (some .int) ∈ TG := tb2 (List.mem_of_getElem? (i := 214) rfl) rfl
theorem wl_X2_53 : Cond.methodLink RX2 53 yX2_isBroken ∈ TG := tb2 (List.mem_of_getElem? (i := 215) rfl) rfl
theorem wl_L_9 : Cond.methodLink RL 9 yL_cell ∈ TG := tb2 (List.mem_of_getElem? (i := 216) rfl) rfl
theorem ws_L_cell : Cond.static yL_cell ∈ TG := tb2 (List.mem_of_getElem? (i := 217) rfl) rfl
theorem wc_L_cell : Cond.code yL_cell cL_cell 2 (some .int) ∈ TG := tb2 (List.mem_of_getElem? (i := 218) rfl) rfl
theorem wk_L_18 : Cond.classLink RL 18 RX6 ∈ TG := tb2 (List.mem_of_getElem? (i := 219) rfl) rfl
theorem wN_X6 : Cond.instantiable RX6 19 ∈ TG := tb2 (List.mem_of_getElem? (i := 220) rfl) rfl
theorem wl_L_20 : Cond.methodLink RL 20 yX6_init ∈ TG := tb2 (List.mem_of_getElem? (i := 221) rfl) rfl
theorem wi_X6_init : Cond.instanceMethod yX6_init ∈ TG := tb2 (List.mem_of_getElem? (i := 222) rfl) rfl
theorem wc_X6_init : Cond.code yX6_init cX6_init 4 none ∈ TG := tb2 (List.mem_of_getElem? (i := 223) rfl) rfl
theorem wl_X6_3 : Cond.methodLink RX6 3 objectInit ∈ TG := tb2 (List.mem_of_getElem? (i := 224) rfl) rfl
theorem wf_X6_50 : Cond.fieldLink RX6 50 "HillLayersModel" "w" "I" ∈ TG := tb2 (List.mem_of_getElem? (i := 225) rfl) rfl
theorem wf_X6_54 : Cond.fieldLink RX6 54 "HillLayersModel" "s" "I" ∈ TG := tb2 (List.mem_of_getElem? (i := 226) rfl) rfl
theorem wf_X6_9 : Cond.fieldLink RX6 9 "HillLayersModel" "thickFrom" "[I" ∈ TG := tb2 (List.mem_of_getElem? (i := 227) rfl) rfl
theorem wf_X6_13 : Cond.fieldLink RX6 13 "HillLayersModel" "thickTo" "[I" ∈ TG := tb2 (List.mem_of_getElem? (i := 228) rfl) rfl
theorem wf_X6_16 : Cond.fieldLink RX6 16 "HillLayersModel" "steep" "[I" ∈ TG := tb2 (List.mem_of_getElem? (i := 229) rfl) rfl
theorem wf_X6_19 : Cond.fieldLink RX6 19 "HillLayersModel" "isFault" "[Z" ∈ TG := tb2 (List.mem_of_getElem? (i := 230) rfl) rfl
theorem wf_X6_23 : Cond.fieldLink RX6 23 "HillLayersModel" "thrown" "[I" ∈ TG := tb2 (List.mem_of_getElem? (i := 231) rfl) rfl
theorem wf_X6_26 : Cond.fieldLink RX6 26 "HillLayersModel" "ground" "[I" ∈ TG := tb2 (List.mem_of_getElem? (i := 232) rfl) rfl
theorem wf_X6_69 : Cond.fieldLink RX6 69 "HillLayersModel" "sights" "I" ∈ TG := tb2 (List.mem_of_getElem? (i := 233) rfl) rfl
theorem wf_X6_29 : Cond.fieldLink RX6 29 "HillLayersModel" "where" "[I" ∈ TG := tb2 (List.mem_of_getElem? (i := 234) rfl) rfl
theorem wf_X6_32 : Cond.fieldLink RX6 32 "HillLayersModel" "told" "[I" ∈ TG := tb2 (List.mem_of_getElem? (i := 235) rfl) rfl
theorem wf_X6_35 : Cond.fieldLink RX6 35 "HillLayersModel" "miss" "[I" ∈ TG := tb2 (List.mem_of_getElem? (i := 236) rfl) rfl
theorem wf_X6_38 : Cond.fieldLink RX6 38 "HillLayersModel" "isThere" "[Z" ∈ TG := tb2 (List.mem_of_getElem? (i := 237) rfl) rfl
theorem wf_X6_41 : Cond.fieldLink RX6 41 "HillLayersModel" "most" "[I" ∈ TG := tb2 (List.mem_of_getElem? (i := 238) rfl) rfl
theorem wf_X6_44 : Cond.fieldLink RX6 44 "HillLayersModel" "base" "[I" ∈ TG := tb2 (List.mem_of_getElem? (i := 239) rfl) rfl
theorem wf_X6_47 : Cond.fieldLink RX6 47 "HillLayersModel" "badWith" "[I" ∈ TG := tb3 (List.mem_of_getElem? (i := 0) rfl) rfl
theorem wf_X6_61 : Cond.fieldLink RX6 61 "HillLayersModel" "isReckoned" "Z" ∈ TG := tb3 (List.mem_of_getElem? (i := 1) rfl) rfl
theorem wf_X6_107 : Cond.fieldLink RX6 107 "HillLayersModel" "isHill" "Z" ∈ TG := tb3 (List.mem_of_getElem? (i := 2) rfl) rfl
theorem wf_X6_121 : Cond.fieldLink RX6 121 "HillLayersModel" "quarrels" "I" ∈ TG := tb3 (List.mem_of_getElem? (i := 3) rfl) rfl
theorem wl_L_25 : Cond.methodLink RL 25 yX6_thick ∈ TG := tb3 (List.mem_of_getElem? (i := 43) rfl) rfl
theorem wi_X6_thick : Cond.instanceMethod yX6_thick ∈ TG := tb3 (List.mem_of_getElem? (i := 44) rfl) rfl
theorem wse_X6_thick : Cond.selects RX6 yX6_thick yX6_thick ∈ TG := tb3 (List.mem_of_getElem? (i := 45) rfl) rfl
theorem wc_X6_thick : Cond.code yX6_thick cX6_thick 4 (some .boolean) ∈ TG := tb3 (List.mem_of_getElem? (i := 46) rfl) rfl
theorem wl_X6_57 : Cond.methodLink RX6 57 yX6_in ∈ TG := tb3 (List.mem_of_getElem? (i := 47) rfl) rfl
theorem ws_X6_in : Cond.static yX6_in ∈ TG := tb3 (List.mem_of_getElem? (i := 48) rfl) rfl
theorem wc_X6_in : Cond.code yX6_in cX6_in 3 (some .boolean) ∈ TG := tb3 (List.mem_of_getElem? (i := 49) rfl) rfl
theorem wl_L_30 : Cond.methodLink RL 30 yX6_steep ∈ TG := tb3 (List.mem_of_getElem? (i := 50) rfl) rfl
theorem wi_X6_steep : Cond.instanceMethod yX6_steep ∈ TG := tb3 (List.mem_of_getElem? (i := 51) rfl) rfl
theorem wse_X6_steep : Cond.selects RX6 yX6_steep yX6_steep ∈ TG := tb3 (List.mem_of_getElem? (i := 52) rfl) rfl
theorem wc_X6_steep : Cond.code yX6_steep cX6_steep 3 (some .boolean) ∈ TG := tb3 (List.mem_of_getElem? (i := 53) rfl) rfl
theorem wl_L_34 : Cond.methodLink RL 34 yX6_fault ∈ TG := tb3 (List.mem_of_getElem? (i := 54) rfl) rfl
theorem wi_X6_fault : Cond.instanceMethod yX6_fault ∈ TG := tb3 (List.mem_of_getElem? (i := 55) rfl) rfl
theorem wse_X6_fault : Cond.selects RX6 yX6_fault yX6_fault ∈ TG := tb3 (List.mem_of_getElem? (i := 56) rfl) rfl
theorem wc_X6_fault : Cond.code yX6_fault cX6_fault 3 (some .boolean) ∈ TG := tb3 (List.mem_of_getElem? (i := 57) rfl) rfl
theorem wl_L_39 : Cond.methodLink RL 39 yX6_heal ∈ TG := tb3 (List.mem_of_getElem? (i := 58) rfl) rfl
theorem wi_X6_heal : Cond.instanceMethod yX6_heal ∈ TG := tb3 (List.mem_of_getElem? (i := 59) rfl) rfl
theorem wse_X6_heal : Cond.selects RX6 yX6_heal yX6_heal ∈ TG := tb3 (List.mem_of_getElem? (i := 60) rfl) rfl
theorem wc_X6_heal : Cond.code yX6_heal cX6_heal 2 (some .boolean) ∈ TG := tb3 (List.mem_of_getElem? (i := 61) rfl) rfl
theorem wl_L_43 : Cond.methodLink RL 43 yX6_ground ∈ TG := tb3 (List.mem_of_getElem? (i := 62) rfl) rfl
theorem wi_X6_ground : Cond.instanceMethod yX6_ground ∈ TG := tb3 (List.mem_of_getElem? (i := 63) rfl) rfl
theorem wse_X6_ground : Cond.selects RX6 yX6_ground yX6_ground ∈ TG := tb3 (List.mem_of_getElem? (i := 64) rfl) rfl
theorem wc_X6_ground : Cond.code yX6_ground cX6_ground 3 (some .boolean) ∈ TG := tb3 (List.mem_of_getElem? (i := 65) rfl) rfl
theorem wl_L_48 : Cond.methodLink RL 48 yX6_sight ∈ TG := tb3 (List.mem_of_getElem? (i := 66) rfl) rfl
theorem wi_X6_sight : Cond.instanceMethod yX6_sight ∈ TG := tb3 (List.mem_of_getElem? (i := 67) rfl) rfl
theorem wse_X6_sight : Cond.selects RX6 yX6_sight yX6_sight ∈ TG := tb3 (List.mem_of_getElem? (i := 68) rfl) rfl
theorem wc_X6_sight : Cond.code yX6_sight cX6_sight 4 (some .int) ∈ TG := tb3 (List.mem_of_getElem? (i := 69) rfl) rfl
theorem wl_X6_65 : Cond.methodLink RX6 65 yX6_isPlace ∈ TG := tb3 (List.mem_of_getElem? (i := 70) rfl) rfl
theorem wi_X6_isPlace : Cond.instanceMethod yX6_isPlace ∈ TG := tb3 (List.mem_of_getElem? (i := 72) rfl) rfl
theorem wc_X6_isPlace : Cond.code yX6_isPlace cX6_isPlace 3 (some .boolean) ∈ TG := tb3 (List.mem_of_getElem? (i := 73) rfl) rfl
theorem wl_L_52 : Cond.methodLink RL 52 yX6_take ∈ TG := tb3 (List.mem_of_getElem? (i := 74) rfl) rfl
theorem wi_X6_take : Cond.instanceMethod yX6_take ∈ TG := tb3 (List.mem_of_getElem? (i := 75) rfl) rfl
theorem wse_X6_take : Cond.selects RX6 yX6_take yX6_take ∈ TG := tb3 (List.mem_of_getElem? (i := 76) rfl) rfl
theorem wc_X6_take : Cond.code yX6_take cX6_take 2 (some .boolean) ∈ TG := tb3 (List.mem_of_getElem? (i := 77) rfl) rfl
theorem wl_X6_72 : Cond.methodLink RX6 72 yX6_isSight ∈ TG := tb3 (List.mem_of_getElem? (i := 78) rfl) rfl
theorem wi_X6_isSight : Cond.instanceMethod yX6_isSight ∈ TG := tb3 (List.mem_of_getElem? (i := 80) rfl) rfl
theorem wc_X6_isSight : Cond.code yX6_isSight cX6_isSight 2 (some .boolean) ∈ TG := tb3 (List.mem_of_getElem? (i := 81) rfl) rfl
theorem wl_L_57 : Cond.methodLink RL 57 yX6_quarrel ∈ TG := tb3 (List.mem_of_getElem? (i := 82) rfl) rfl
theorem wi_X6_quarrel : Cond.instanceMethod yX6_quarrel ∈ TG := tb3 (List.mem_of_getElem? (i := 83) rfl) rfl
theorem wse_X6_quarrel : Cond.selects RX6 yX6_quarrel yX6_quarrel ∈ TG := tb3 (List.mem_of_getElem? (i := 84) rfl) rfl
theorem wc_X6_quarrel : Cond.code yX6_quarrel cX6_quarrel 1 (some .int) ∈ TG := tb3 (List.mem_of_getElem? (i := 85) rfl) rfl
theorem wl_X6_124 : Cond.methodLink RX6 124 yX6_reckons ∈ TG := tb3 (List.mem_of_getElem? (i := 86) rfl) rfl
theorem wi_X6_reckons : Cond.instanceMethod yX6_reckons ∈ TG := tb3 (List.mem_of_getElem? (i := 88) rfl) rfl
theorem wc_X6_reckons : Cond.code yX6_reckons cX6_reckons 1 (some .boolean) ∈ TG := tb3 (List.mem_of_getElem? (i := 89) rfl) rfl
theorem wl_X6_103 : Cond.methodLink RX6 103 yX6_found ∈ TG := tb3 (List.mem_of_getElem? (i := 90) rfl) rfl
theorem wi_X6_found : Cond.instanceMethod yX6_found ∈ TG := tb3 (List.mem_of_getElem? (i := 92) rfl) rfl
theorem wc_X6_found : Cond.code yX6_found cX6_found 4 (some .boolean) ∈ TG := tb3 (List.mem_of_getElem? (i := 93) rfl) rfl
theorem wl_X6_110 : Cond.methodLink RX6 110 yX6_stands ∈ TG := tb3 (List.mem_of_getElem? (i := 94) rfl) rfl
theorem wi_X6_stands : Cond.instanceMethod yX6_stands ∈ TG := tb3 (List.mem_of_getElem? (i := 96) rfl) rfl
theorem wc_X6_stands : Cond.code yX6_stands cX6_stands 5 (some .boolean) ∈ TG := tb3 (List.mem_of_getElem? (i := 97) rfl) rfl
theorem wv_X6_80 : Cond.constant RX6 80 100000 ∈ TG := tb3 (List.mem_of_getElem? (i := 98) rfl) rfl
theorem wl_X6_81 : Cond.methodLink RX6 81 yX6_node ∈ TG := tb3 (List.mem_of_getElem? (i := 99) rfl) rfl
theorem ws_X6_node : Cond.static yX6_node ∈ TG := tb3 (List.mem_of_getElem? (i := 100) rfl) rfl
theorem wc_X6_node : Cond.code yX6_node cX6_node 2 (some .int) ∈ TG := tb3 (List.mem_of_getElem? (i := 101) rfl) rfl
theorem wl_X6_76 : Cond.methodLink RX6 76 yX6_bounds ∈ TG := tb3 (List.mem_of_getElem? (i := 102) rfl) rfl
theorem wi_X6_bounds : Cond.instanceMethod yX6_bounds ∈ TG := tb3 (List.mem_of_getElem? (i := 104) rfl) rfl
theorem wc_X6_bounds : Cond.code yX6_bounds cX6_bounds 4 none ∈ TG := tb3 (List.mem_of_getElem? (i := 105) rfl) rfl
theorem wl_X6_85 : Cond.methodLink RX6 85 yX6_within ∈ TG := tb3 (List.mem_of_getElem? (i := 106) rfl) rfl
theorem wi_X6_within : Cond.instanceMethod yX6_within ∈ TG := tb3 (List.mem_of_getElem? (i := 108) rfl) rfl
theorem wc_X6_within : Cond.code yX6_within cX6_within 5 none ∈ TG := tb3 (List.mem_of_getElem? (i := 109) rfl) rfl
theorem wv_X6_89 : Cond.constant RX6 89 50000 ∈ TG := tb3 (List.mem_of_getElem? (i := 110) rfl) rfl
theorem wl_X6_113 : Cond.methodLink RX6 113 yX6_pairs ∈ TG := tb3 (List.mem_of_getElem? (i := 111) rfl) rfl
theorem wi_X6_pairs : Cond.instanceMethod yX6_pairs ∈ TG := tb3 (List.mem_of_getElem? (i := 113) rfl) rfl
theorem wc_X6_pairs : Cond.code yX6_pairs cX6_pairs 5 none ∈ TG := tb3 (List.mem_of_getElem? (i := 114) rfl) rfl
theorem wl_X6_100 : Cond.methodLink RX6 100 yX6_agrees ∈ TG := tb3 (List.mem_of_getElem? (i := 115) rfl) rfl
theorem wi_X6_agrees : Cond.instanceMethod yX6_agrees ∈ TG := tb3 (List.mem_of_getElem? (i := 117) rfl) rfl
theorem wc_X6_agrees : Cond.code yX6_agrees cX6_agrees 3 (some .boolean) ∈ TG := tb3 (List.mem_of_getElem? (i := 118) rfl) rfl
theorem wl_X6_97 : Cond.methodLink RX6 97 yX6_sees ∈ TG := tb3 (List.mem_of_getElem? (i := 119) rfl) rfl
theorem wi_X6_sees : Cond.instanceMethod yX6_sees ∈ TG := tb3 (List.mem_of_getElem? (i := 121) rfl) rfl
theorem wc_X6_sees : Cond.code yX6_sees cX6_sees 4 (some .boolean) ∈ TG := tb3 (List.mem_of_getElem? (i := 122) rfl) rfl
theorem wl_X6_93 : Cond.methodLink RX6 93 yX6_addsWithin ∈ TG := tb3 (List.mem_of_getElem? (i := 123) rfl) rfl
theorem wi_X6_addsWithin : Cond.instanceMethod yX6_addsWithin ∈ TG := tb3 (List.mem_of_getElem? (i := 125) rfl) rfl
theorem wc_X6_addsWithin : Cond.code yX6_addsWithin cX6_addsWithin 5 (some .boolean) ∈ TG := tb3 (List.mem_of_getElem? (i := 126) rfl) rfl
theorem wl_X6_90 : Cond.methodLink RX6 90 yX6_adds ∈ TG := tb3 (List.mem_of_getElem? (i := 127) rfl) rfl
theorem wi_X6_adds : Cond.instanceMethod yX6_adds ∈ TG := tb3 (List.mem_of_getElem? (i := 129) rfl) rfl
theorem wc_X6_adds : Cond.code yX6_adds cX6_adds 7 (some .boolean) ∈ TG := tb3 (List.mem_of_getElem? (i := 130) rfl) rfl
theorem wl_X6_117 : Cond.methodLink RX6 117 yX6_bits ∈ TG := tb3 (List.mem_of_getElem? (i := 131) rfl) rfl
theorem ws_X6_bits : Cond.static yX6_bits ∈ TG := tb3 (List.mem_of_getElem? (i := 132) rfl) rfl
theorem wc_X6_bits : Cond.code yX6_bits cX6_bits 3 (some .int) ∈ TG := tb3 (List.mem_of_getElem? (i := 133) rfl) rfl
theorem wl_L_61 : Cond.methodLink RL 61 yX6_span ∈ TG := tb3 (List.mem_of_getElem? (i := 134) rfl) rfl
theorem wi_X6_span : Cond.instanceMethod yX6_span ∈ TG := tb3 (List.mem_of_getElem? (i := 135) rfl) rfl
theorem wse_X6_span : Cond.selects RX6 yX6_span yX6_span ∈ TG := tb3 (List.mem_of_getElem? (i := 136) rfl) rfl
theorem wc_X6_span : Cond.code yX6_span cX6_span 4 (some .int) ∈ TG := tb3 (List.mem_of_getElem? (i := 137) rfl) rfl
theorem wl_X6_127 : Cond.methodLink RX6 127 yX6_low ∈ TG := tb3 (List.mem_of_getElem? (i := 138) rfl) rfl
theorem wi_X6_low : Cond.instanceMethod yX6_low ∈ TG := tb3 (List.mem_of_getElem? (i := 140) rfl) rfl
theorem wc_X6_low : Cond.code yX6_low cX6_low 2 (some .int) ∈ TG := tb3 (List.mem_of_getElem? (i := 141) rfl) rfl
theorem wl_X6_130 : Cond.methodLink RX6 130 yX6_high ∈ TG := tb3 (List.mem_of_getElem? (i := 142) rfl) rfl
theorem wi_X6_high : Cond.instanceMethod yX6_high ∈ TG := tb3 (List.mem_of_getElem? (i := 144) rfl) rfl
theorem wc_X6_high : Cond.code yX6_high cX6_high 2 (some .int) ∈ TG := tb3 (List.mem_of_getElem? (i := 145) rfl) rfl
theorem wl_L_65 : Cond.methodLink RL 65 yX6_open ∈ TG := tb3 (List.mem_of_getElem? (i := 146) rfl) rfl
theorem wi_X6_open : Cond.instanceMethod yX6_open ∈ TG := tb3 (List.mem_of_getElem? (i := 147) rfl) rfl
theorem wse_X6_open : Cond.selects RX6 yX6_open yX6_open ∈ TG := tb3 (List.mem_of_getElem? (i := 148) rfl) rfl
theorem wc_X6_open : Cond.code yX6_open cX6_open 1 (some .int) ∈ TG := tb3 (List.mem_of_getElem? (i := 149) rfl) rfl
theorem wl_X6_133 : Cond.methodLink RX6 133 yX6_opens ∈ TG := tb3 (List.mem_of_getElem? (i := 150) rfl) rfl
theorem wi_X6_opens : Cond.instanceMethod yX6_opens ∈ TG := tb3 (List.mem_of_getElem? (i := 152) rfl) rfl
theorem wc_X6_opens : Cond.code yX6_opens cX6_opens 4 (some .int) ∈ TG := tb3 (List.mem_of_getElem? (i := 153) rfl) rfl
theorem wl_L_70 : Cond.methodLink RL 70 yX6_layer ∈ TG := tb3 (List.mem_of_getElem? (i := 154) rfl) rfl
theorem wi_X6_layer : Cond.instanceMethod yX6_layer ∈ TG := tb3 (List.mem_of_getElem? (i := 155) rfl) rfl
theorem wse_X6_layer : Cond.selects RX6 yX6_layer yX6_layer ∈ TG := tb3 (List.mem_of_getElem? (i := 156) rfl) rfl
theorem wc_X6_layer : Cond.code yX6_layer cX6_layer 6 (some .int) ∈ TG := tb3 (List.mem_of_getElem? (i := 157) rfl) rfl
theorem wl_L_74 : Cond.methodLink RL 74 yX6_between ∈ TG := tb3 (List.mem_of_getElem? (i := 158) rfl) rfl
theorem wi_X6_between : Cond.instanceMethod yX6_between ∈ TG := tb3 (List.mem_of_getElem? (i := 159) rfl) rfl
theorem wse_X6_between : Cond.selects RX6 yX6_between yX6_between ∈ TG := tb3 (List.mem_of_getElem? (i := 160) rfl) rfl
theorem wc_X6_between : Cond.code yX6_between cX6_between 6 (some .int) ∈ TG := tb3 (List.mem_of_getElem? (i := 161) rfl) rfl
theorem wv_X6_137 : Cond.constant RX6 137 (-2147483648) ∈ TG := tb3 (List.mem_of_getElem? (i := 162) rfl) rfl
theorem wl_L_78 : Cond.methodLink RL 78 yX6_worn ∈ TG := tb3 (List.mem_of_getElem? (i := 163) rfl) rfl
theorem wi_X6_worn : Cond.instanceMethod yX6_worn ∈ TG := tb3 (List.mem_of_getElem? (i := 164) rfl) rfl
theorem wse_X6_worn : Cond.selects RX6 yX6_worn yX6_worn ∈ TG := tb3 (List.mem_of_getElem? (i := 165) rfl) rfl
theorem wc_X6_worn : Cond.code yX6_worn cX6_worn 4 (some .int) ∈ TG := tb3 (List.mem_of_getElem? (i := 166) rfl) rfl
theorem wl_L_82 : Cond.methodLink RL 82 yX6_tells ∈ TG := tb3 (List.mem_of_getElem? (i := 167) rfl) rfl
theorem wi_X6_tells : Cond.instanceMethod yX6_tells ∈ TG := tb3 (List.mem_of_getElem? (i := 168) rfl) rfl
theorem wse_X6_tells : Cond.selects RX6 yX6_tells yX6_tells ∈ TG := tb3 (List.mem_of_getElem? (i := 169) rfl) rfl
theorem wc_X6_tells : Cond.code yX6_tells cX6_tells 3 (some .int) ∈ TG := tb3 (List.mem_of_getElem? (i := 170) rfl) rfl
theorem wl_X6_141 : Cond.methodLink RX6 141 yX6_tellsAt ∈ TG := tb3 (List.mem_of_getElem? (i := 171) rfl) rfl
theorem wi_X6_tellsAt : Cond.instanceMethod yX6_tellsAt ∈ TG := tb3 (List.mem_of_getElem? (i := 173) rfl) rfl
theorem wc_X6_tellsAt : Cond.code yX6_tellsAt cX6_tellsAt 4 (some .int) ∈ TG := tb3 (List.mem_of_getElem? (i := 174) rfl) rfl
theorem wl_X6_138 : Cond.methodLink RX6 138 yX6_opensBy ∈ TG := tb3 (List.mem_of_getElem? (i := 175) rfl) rfl
theorem wi_X6_opensBy : Cond.instanceMethod yX6_opensBy ∈ TG := tb3 (List.mem_of_getElem? (i := 177) rfl) rfl
theorem wc_X6_opensBy : Cond.code yX6_opensBy cX6_opensBy 9 (some .int) ∈ TG := tb3 (List.mem_of_getElem? (i := 178) rfl) rfl
theorem wl_L_86 : Cond.methodLink RL 86 yX6_next ∈ TG := tb3 (List.mem_of_getElem? (i := 179) rfl) rfl
theorem wi_X6_next : Cond.instanceMethod yX6_next ∈ TG := tb3 (List.mem_of_getElem? (i := 180) rfl) rfl
theorem wse_X6_next : Cond.selects RX6 yX6_next yX6_next ∈ TG := tb3 (List.mem_of_getElem? (i := 181) rfl) rfl
theorem wc_X6_next : Cond.code yX6_next cX6_next 6 (some .int) ∈ TG := tb3 (List.mem_of_getElem? (i := 182) rfl) rfl
theorem wl_L_91 : Cond.methodLink RL 91 yX6_bend ∈ TG := tb3 (List.mem_of_getElem? (i := 183) rfl) rfl
theorem wi_X6_bend : Cond.instanceMethod yX6_bend ∈ TG := tb3 (List.mem_of_getElem? (i := 184) rfl) rfl
theorem wse_X6_bend : Cond.selects RX6 yX6_bend yX6_bend ∈ TG := tb3 (List.mem_of_getElem? (i := 185) rfl) rfl
theorem wc_X6_bend : Cond.code yX6_bend cX6_bend 6 (some .int) ∈ TG := tb3 (List.mem_of_getElem? (i := 186) rfl) rfl
theorem wl_X6_144 : Cond.methodLink RX6 144 yX6_depth ∈ TG := tb3 (List.mem_of_getElem? (i := 187) rfl) rfl
theorem wi_X6_depth : Cond.instanceMethod yX6_depth ∈ TG := tb3 (List.mem_of_getElem? (i := 189) rfl) rfl
theorem wc_X6_depth : Cond.code yX6_depth cX6_depth 4 (some .int) ∈ TG := tb3 (List.mem_of_getElem? (i := 190) rfl) rfl
theorem wl_L_95 : Cond.methodLink RL 95 yX6_told ∈ TG := tb3 (List.mem_of_getElem? (i := 191) rfl) rfl
theorem wi_X6_told : Cond.instanceMethod yX6_told ∈ TG := tb3 (List.mem_of_getElem? (i := 192) rfl) rfl
theorem wse_X6_told : Cond.selects RX6 yX6_told yX6_told ∈ TG := tb3 (List.mem_of_getElem? (i := 193) rfl) rfl
theorem wc_X6_told : Cond.code yX6_told cX6_told 3 (some .int) ∈ TG := tb3 (List.mem_of_getElem? (i := 194) rfl) rfl
theorem wl_L_99 : Cond.methodLink RL 99 yX6_count ∈ TG := tb3 (List.mem_of_getElem? (i := 195) rfl) rfl
theorem wi_X6_count : Cond.instanceMethod yX6_count ∈ TG := tb3 (List.mem_of_getElem? (i := 196) rfl) rfl
theorem wse_X6_count : Cond.selects RX6 yX6_count yX6_count ∈ TG := tb3 (List.mem_of_getElem? (i := 197) rfl) rfl
theorem wc_X6_count : Cond.code yX6_count cX6_count 4 (some .int) ∈ TG := tb3 (List.mem_of_getElem? (i := 198) rfl) rfl
theorem wse_X2_bindThick : Cond.selects RX2 yX2_bindThick yX2_bindThick ∈ TG := tbs1 (q := (⟨"HillLayers$Rock", "bindThick", "(LHillLayers$Gaps;II)Z"⟩, 7)) (List.mem_of_getElem? (i := 0) rfl)
theorem wse_X1_isPlace : Cond.selects RX1 yX1_isPlace yX1_isPlace ∈ TG := tbs1 (q := (⟨"HillLayers$Gaps", "isPlace", "(I)Z"⟩, 2)) (List.mem_of_getElem? (i := 1) rfl)
theorem wse_X1_narrow : Cond.selects RX1 yX1_narrow yX1_narrow ∈ TG := tbs1 (q := (⟨"HillLayers$Gaps", "narrow", "(III)V"⟩, 2)) (List.mem_of_getElem? (i := 2) rfl)
theorem wse_X2_bindStep : Cond.selects RX2 yX2_bindStep yX2_bindStep ∈ TG := tbs1 (q := (⟨"HillLayers$Rock", "bindStep", "(LHillLayers$Gaps;II)Z"⟩, 7)) (List.mem_of_getElem? (i := 3) rfl)
theorem wse_X0_findQuarrel : Cond.selects RX0 yX0_findQuarrel yX0_findQuarrel ∈ TG := tbs1 (q := (⟨"HillLayers$Bodies", "findQuarrel", "()V"⟩, 9)) (List.mem_of_getElem? (i := 4) rfl)
theorem wse_X5_end : Cond.selects RX5 yX5_end yX5_end ∈ TG := tbs1 (q := (⟨"HillLayers", "end", "(II)I"⟩, 4)) (List.mem_of_getElem? (i := 5) rfl)
theorem wse_X5_isPlaceCode : Cond.selects RX5 yX5_isPlaceCode yX5_isPlaceCode ∈ TG := tbs1 (q := (⟨"HillLayers", "isPlaceCode", "(I)Z"⟩, 4)) (List.mem_of_getElem? (i := 6) rfl)
theorem wse_X5_gain : Cond.selects RX5 yX5_gain yX5_gain ∈ TG := tbs1 (q := (⟨"HillLayers", "gain", "(I)I"⟩, 4)) (List.mem_of_getElem? (i := 7) rfl)
theorem wse_X6_isPlace : Cond.selects RX6 yX6_isPlace yX6_isPlace ∈ TG := tbs1 (q := (⟨"HillLayersModel", "isPlace", "(II)Z"⟩, 19)) (List.mem_of_getElem? (i := 8) rfl)
theorem wse_X6_isSight : Cond.selects RX6 yX6_isSight yX6_isSight ∈ TG := tbs1 (q := (⟨"HillLayersModel", "isSight", "(I)Z"⟩, 19)) (List.mem_of_getElem? (i := 9) rfl)
theorem wse_X6_reckons : Cond.selects RX6 yX6_reckons yX6_reckons ∈ TG := tbs1 (q := (⟨"HillLayersModel", "reckons", "()Z"⟩, 19)) (List.mem_of_getElem? (i := 10) rfl)
theorem wse_X6_found : Cond.selects RX6 yX6_found yX6_found ∈ TG := tbs1 (q := (⟨"HillLayersModel", "found", "()Z"⟩, 19)) (List.mem_of_getElem? (i := 11) rfl)
theorem wse_X6_stands : Cond.selects RX6 yX6_stands yX6_stands ∈ TG := tbs1 (q := (⟨"HillLayersModel", "stands", "()Z"⟩, 19)) (List.mem_of_getElem? (i := 12) rfl)
theorem wse_X6_bounds : Cond.selects RX6 yX6_bounds yX6_bounds ∈ TG := tbs1 (q := (⟨"HillLayersModel", "bounds", "(III)V"⟩, 19)) (List.mem_of_getElem? (i := 13) rfl)
theorem wse_X6_within : Cond.selects RX6 yX6_within yX6_within ∈ TG := tbs1 (q := (⟨"HillLayersModel", "within", "(IIII)V"⟩, 19)) (List.mem_of_getElem? (i := 14) rfl)
theorem wse_X6_pairs : Cond.selects RX6 yX6_pairs yX6_pairs ∈ TG := tbs1 (q := (⟨"HillLayersModel", "pairs", "(I)V"⟩, 19)) (List.mem_of_getElem? (i := 15) rfl)
theorem wse_X6_agrees : Cond.selects RX6 yX6_agrees yX6_agrees ∈ TG := tbs2 (q := (⟨"HillLayersModel", "agrees", "(I)Z"⟩, 19)) (List.mem_of_getElem? (i := 0) rfl)
theorem wse_X6_sees : Cond.selects RX6 yX6_sees yX6_sees ∈ TG := tbs2 (q := (⟨"HillLayersModel", "sees", "(I)Z"⟩, 19)) (List.mem_of_getElem? (i := 1) rfl)
theorem wse_X6_addsWithin : Cond.selects RX6 yX6_addsWithin yX6_addsWithin ∈ TG := tbs2 (q := (⟨"HillLayersModel", "addsWithin", "(IIII)Z"⟩, 19)) (List.mem_of_getElem? (i := 2) rfl)
theorem wse_X6_adds : Cond.selects RX6 yX6_adds yX6_adds ∈ TG := tbs2 (q := (⟨"HillLayersModel", "adds", "(III)Z"⟩, 19)) (List.mem_of_getElem? (i := 3) rfl)
theorem wse_X6_low : Cond.selects RX6 yX6_low yX6_low ∈ TG := tbs2 (q := (⟨"HillLayersModel", "low", "(I)I"⟩, 19)) (List.mem_of_getElem? (i := 4) rfl)
theorem wse_X6_high : Cond.selects RX6 yX6_high yX6_high ∈ TG := tbs2 (q := (⟨"HillLayersModel", "high", "(I)I"⟩, 19)) (List.mem_of_getElem? (i := 5) rfl)
theorem wse_X6_opens : Cond.selects RX6 yX6_opens yX6_opens ∈ TG := tbs2 (q := (⟨"HillLayersModel", "opens", "()I"⟩, 19)) (List.mem_of_getElem? (i := 6) rfl)
theorem wse_X6_tellsAt : Cond.selects RX6 yX6_tellsAt yX6_tellsAt ∈ TG := tbs2 (q := (⟨"HillLayersModel", "tellsAt", "(I)I"⟩, 19)) (List.mem_of_getElem? (i := 7) rfl)
theorem wse_X6_opensBy : Cond.selects RX6 yX6_opensBy yX6_opensBy ∈ TG := tbs2 (q := (⟨"HillLayersModel", "opensBy", "(II)I"⟩, 19)) (List.mem_of_getElem? (i := 8) rfl)
theorem wse_X6_depth : Cond.selects RX6 yX6_depth yX6_depth ∈ TG := tbs2 (q := (⟨"HillLayersModel", "depth", "(III)I"⟩, 19)) (List.mem_of_getElem? (i := 9) rfl)
theorem ly_X0_0 : u_lay RX0 TX0 0 ∈ TG := tb1 (List.mem_of_getElem? (i := 106) rfl) rfl
theorem ly_X0_1 : u_lay RX0 TX0 1 ∈ TG := tb1 (List.mem_of_getElem? (i := 108) rfl) rfl
theorem ly_X0_2 : u_lay RX0 TX0 2 ∈ TG := tb1 (List.mem_of_getElem? (i := 110) rfl) rfl
theorem ly_X0_3 : u_lay RX0 TX0 3 ∈ TG := tb1 (List.mem_of_getElem? (i := 112) rfl) rfl
theorem ly_X0_4 : u_lay RX0 TX0 4 ∈ TG := tb1 (List.mem_of_getElem? (i := 114) rfl) rfl
theorem ly_X0_5 : u_lay RX0 TX0 5 ∈ TG := tb1 (List.mem_of_getElem? (i := 116) rfl) rfl
theorem ly_X0_6 : u_lay RX0 TX0 6 ∈ TG := tb1 (List.mem_of_getElem? (i := 118) rfl) rfl
theorem ly_X0_7 : u_lay RX0 TX0 7 ∈ TG := tb1 (List.mem_of_getElem? (i := 120) rfl) rfl
theorem ly_X0_8 : u_lay RX0 TX0 8 ∈ TG := tb1 (List.mem_of_getElem? (i := 122) rfl) rfl
theorem in_X0 : ∀ w ∈ wsX00, w ∈ TG := by
  intro w h
  obtain ⟨k, hk, rfl⟩ := List.mem_map.mp h
  have hk := List.mem_range.mp hk
  match k, hk with
  | 0, _ => exact ly_X0_0
  | 1, _ => exact ly_X0_1
  | 2, _ => exact ly_X0_2
  | 3, _ => exact ly_X0_3
  | 4, _ => exact ly_X0_4
  | 5, _ => exact ly_X0_5
  | 6, _ => exact ly_X0_6
  | 7, _ => exact ly_X0_7
  | 8, _ => exact ly_X0_8
  | k + 9, hk => exact absurd hk (by omega)
theorem ly_X1_0 : u_lay RX1 TX1 0 ∈ TG := tb1 (List.mem_of_getElem? (i := 92) rfl) rfl
theorem ly_X1_1 : u_lay RX1 TX1 1 ∈ TG := tb1 (List.mem_of_getElem? (i := 94) rfl) rfl
theorem in_X1 : ∀ w ∈ wsX10, w ∈ TG := by
  intro w h
  obtain ⟨k, hk, rfl⟩ := List.mem_map.mp h
  have hk := List.mem_range.mp hk
  match k, hk with
  | 0, _ => exact ly_X1_0
  | 1, _ => exact ly_X1_1
  | k + 2, hk => exact absurd hk (by omega)
theorem ly_X2_0 : u_lay RX2 TX2 0 ∈ TG := tb1 (List.mem_of_getElem? (i := 39) rfl) rfl
theorem ly_X2_1 : u_lay RX2 TX2 1 ∈ TG := tb1 (List.mem_of_getElem? (i := 41) rfl) rfl
theorem ly_X2_2 : u_lay RX2 TX2 2 ∈ TG := tb1 (List.mem_of_getElem? (i := 43) rfl) rfl
theorem ly_X2_3 : u_lay RX2 TX2 3 ∈ TG := tb1 (List.mem_of_getElem? (i := 45) rfl) rfl
theorem ly_X2_4 : u_lay RX2 TX2 4 ∈ TG := tb1 (List.mem_of_getElem? (i := 47) rfl) rfl
theorem ly_X2_5 : u_lay RX2 TX2 5 ∈ TG := tb1 (List.mem_of_getElem? (i := 49) rfl) rfl
theorem ly_X2_6 : u_lay RX2 TX2 6 ∈ TG := tb1 (List.mem_of_getElem? (i := 51) rfl) rfl
theorem in_X2 : ∀ w ∈ wsX20, w ∈ TG := by
  intro w h
  obtain ⟨k, hk, rfl⟩ := List.mem_map.mp h
  have hk := List.mem_range.mp hk
  match k, hk with
  | 0, _ => exact ly_X2_0
  | 1, _ => exact ly_X2_1
  | 2, _ => exact ly_X2_2
  | 3, _ => exact ly_X2_3
  | 4, _ => exact ly_X2_4
  | 5, _ => exact ly_X2_5
  | 6, _ => exact ly_X2_6
  | k + 7, hk => exact absurd hk (by omega)
theorem ly_X3_0 : u_lay RX3 TX3 0 ∈ TG := tb1 (List.mem_of_getElem? (i := 221) rfl) rfl
theorem ly_X3_1 : u_lay RX3 TX3 1 ∈ TG := tb1 (List.mem_of_getElem? (i := 223) rfl) rfl
theorem ly_X3_2 : u_lay RX3 TX3 2 ∈ TG := tb1 (List.mem_of_getElem? (i := 225) rfl) rfl
theorem ly_X3_3 : u_lay RX3 TX3 3 ∈ TG := tb1 (List.mem_of_getElem? (i := 227) rfl) rfl
theorem ly_X3_4 : u_lay RX3 TX3 4 ∈ TG := tb1 (List.mem_of_getElem? (i := 229) rfl) rfl
theorem in_X3 : ∀ w ∈ wsX30, w ∈ TG := by
  intro w h
  obtain ⟨k, hk, rfl⟩ := List.mem_map.mp h
  have hk := List.mem_range.mp hk
  match k, hk with
  | 0, _ => exact ly_X3_0
  | 1, _ => exact ly_X3_1
  | 2, _ => exact ly_X3_2
  | 3, _ => exact ly_X3_3
  | 4, _ => exact ly_X3_4
  | k + 5, hk => exact absurd hk (by omega)
theorem ly_X4_0 : u_lay RX4 TX4 0 ∈ TG := tb1 (List.mem_of_getElem? (i := 66) rfl) rfl
theorem ly_X4_1 : u_lay RX4 TX4 1 ∈ TG := tb1 (List.mem_of_getElem? (i := 68) rfl) rfl
theorem in_X4 : ∀ w ∈ wsX40, w ∈ TG := by
  intro w h
  obtain ⟨k, hk, rfl⟩ := List.mem_map.mp h
  have hk := List.mem_range.mp hk
  match k, hk with
  | 0, _ => exact ly_X4_0
  | 1, _ => exact ly_X4_1
  | k + 2, hk => exact absurd hk (by omega)
theorem ly_X5_0 : u_lay RX5 TX5 0 ∈ TG := tb1 (List.mem_of_getElem? (i := 129) rfl) rfl
theorem ly_X5_1 : u_lay RX5 TX5 1 ∈ TG := tb1 (List.mem_of_getElem? (i := 131) rfl) rfl
theorem ly_X5_2 : u_lay RX5 TX5 2 ∈ TG := tb1 (List.mem_of_getElem? (i := 133) rfl) rfl
theorem ly_X5_3 : u_lay RX5 TX5 3 ∈ TG := tb1 (List.mem_of_getElem? (i := 135) rfl) rfl
theorem in_X5 : ∀ w ∈ wsX50, w ∈ TG := by
  intro w h
  obtain ⟨k, hk, rfl⟩ := List.mem_map.mp h
  have hk := List.mem_range.mp hk
  match k, hk with
  | 0, _ => exact ly_X5_0
  | 1, _ => exact ly_X5_1
  | 2, _ => exact ly_X5_2
  | 3, _ => exact ly_X5_3
  | k + 4, hk => exact absurd hk (by omega)
theorem ly_X6_0 : u_lay RX6 TX6 0 ∈ TG := tb3 (List.mem_of_getElem? (i := 4) rfl) rfl
theorem ly_X6_1 : u_lay RX6 TX6 1 ∈ TG := tb3 (List.mem_of_getElem? (i := 6) rfl) rfl
theorem ly_X6_2 : u_lay RX6 TX6 2 ∈ TG := tb3 (List.mem_of_getElem? (i := 8) rfl) rfl
theorem ly_X6_3 : u_lay RX6 TX6 3 ∈ TG := tb3 (List.mem_of_getElem? (i := 10) rfl) rfl
theorem ly_X6_4 : u_lay RX6 TX6 4 ∈ TG := tb3 (List.mem_of_getElem? (i := 12) rfl) rfl
theorem ly_X6_5 : u_lay RX6 TX6 5 ∈ TG := tb3 (List.mem_of_getElem? (i := 14) rfl) rfl
theorem ly_X6_6 : u_lay RX6 TX6 6 ∈ TG := tb3 (List.mem_of_getElem? (i := 16) rfl) rfl
theorem ly_X6_7 : u_lay RX6 TX6 7 ∈ TG := tb3 (List.mem_of_getElem? (i := 18) rfl) rfl
theorem ly_X6_8 : u_lay RX6 TX6 8 ∈ TG := tb3 (List.mem_of_getElem? (i := 20) rfl) rfl
theorem ly_X6_9 : u_lay RX6 TX6 9 ∈ TG := tb3 (List.mem_of_getElem? (i := 22) rfl) rfl
theorem ly_X6_10 : u_lay RX6 TX6 10 ∈ TG := tb3 (List.mem_of_getElem? (i := 24) rfl) rfl
theorem ly_X6_11 : u_lay RX6 TX6 11 ∈ TG := tb3 (List.mem_of_getElem? (i := 26) rfl) rfl
theorem ly_X6_12 : u_lay RX6 TX6 12 ∈ TG := tb3 (List.mem_of_getElem? (i := 28) rfl) rfl
theorem ly_X6_13 : u_lay RX6 TX6 13 ∈ TG := tb3 (List.mem_of_getElem? (i := 30) rfl) rfl
theorem ly_X6_14 : u_lay RX6 TX6 14 ∈ TG := tb3 (List.mem_of_getElem? (i := 32) rfl) rfl
theorem ly_X6_15 : u_lay RX6 TX6 15 ∈ TG := tb3 (List.mem_of_getElem? (i := 34) rfl) rfl
theorem ly_X6_16 : u_lay RX6 TX6 16 ∈ TG := tb3 (List.mem_of_getElem? (i := 36) rfl) rfl
theorem ly_X6_17 : u_lay RX6 TX6 17 ∈ TG := tb3 (List.mem_of_getElem? (i := 38) rfl) rfl
theorem ly_X6_18 : u_lay RX6 TX6 18 ∈ TG := tb3 (List.mem_of_getElem? (i := 40) rfl) rfl
theorem in_X6 : ∀ w ∈ wsX60, w ∈ TG := by
  intro w h
  obtain ⟨k, hk, rfl⟩ := List.mem_map.mp h
  have hk := List.mem_range.mp hk
  match k, hk with
  | 0, _ => exact ly_X6_0
  | 1, _ => exact ly_X6_1
  | 2, _ => exact ly_X6_2
  | 3, _ => exact ly_X6_3
  | 4, _ => exact ly_X6_4
  | 5, _ => exact ly_X6_5
  | 6, _ => exact ly_X6_6
  | 7, _ => exact ly_X6_7
  | 8, _ => exact ly_X6_8
  | 9, _ => exact ly_X6_9
  | 10, _ => exact ly_X6_10
  | 11, _ => exact ly_X6_11
  | 12, _ => exact ly_X6_12
  | 13, _ => exact ly_X6_13
  | 14, _ => exact ly_X6_14
  | 15, _ => exact ly_X6_15
  | 16, _ => exact ly_X6_16
  | 17, _ => exact ly_X6_17
  | 18, _ => exact ly_X6_18
  | k + 19, hk => exact absurd hk (by omega)
