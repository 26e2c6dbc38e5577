/-! the words one by one: by program -/
set_option maxRecDepth 100000 in
theorem tw0 : Cond.initialized "CutTreesLaw" ∈ gT := gT_at 34 rfl rfl
set_option maxRecDepth 100000 in
theorem tw1 : Cond.initialized "CutTrees" ∈ gT := gT_at 35 rfl rfl
set_option maxRecDepth 100000 in
theorem tw2 : Cond.initialized "CutTrees$Graph" ∈ gT := gT_at 36 rfl rfl
set_option maxRecDepth 100000 in
theorem tw3 : Cond.initialized "CutTrees$CutTable" ∈ gT := gT_at 37 rfl rfl
set_option maxRecDepth 100000 in
theorem tw4 : Cond.initialized "CutTrees$PairTree" ∈ gT := gT_at 38 rfl rfl
set_option maxRecDepth 100000 in
theorem tw5 : Cond.initialized "CutTrees$Drawing" ∈ gT := gT_at 39 rfl rfl
set_option maxRecDepth 100000 in
theorem tw6 : Cond.initialized "CutTrees$Parting" ∈ gT := gT_at 40 rfl rfl
set_option maxRecDepth 100000 in
theorem tw7 : Cond.initialized "CutTreesModel" ∈ gT := gT_at 41 rfl rfl
set_option maxRecDepth 100000 in
theorem tw8 : Cond.initialized "java/lang/Math" ∈ gT := gT_at 42 rfl rfl
set_option maxRecDepth 100000 in
theorem tw9 : Cond.initialized "java/lang/Integer" ∈ gT := gT_at 43 rfl rfl
set_option maxRecDepth 100000 in
theorem tw10 : Cond.classLink "CutTreesLaw" 7 "CutTrees" ∈ gT := gT_at 44 rfl rfl
set_option maxRecDepth 100000 in
theorem tw11 : Cond.instantiable "CutTrees" 5 ∈ gT := gT_at 45 rfl rfl
set_option maxRecDepth 100000 in
theorem tw12 : Cond.methodLink "CutTreesLaw" 9 yX5_init ∈ gT := gT_at 46 rfl rfl
set_option maxRecDepth 100000 in
theorem tw13 : Cond.instanceMethod yX5_init ∈ gT := gT_at 47 rfl rfl
set_option maxRecDepth 100000 in
theorem tw14 : Cond.code yX5_init prog_1_method_1_code 2 (Option.none : Option FieldType) ∈ gT := gT_at 48 rfl rfl
set_option maxRecDepth 100000 in
theorem tw15 : Cond.methodLink "CutTrees" 1 objectInit ∈ gT := gT_at 49 rfl rfl
set_option maxRecDepth 100000 in
theorem tw16 : Cond.instanceMethod objectInit ∈ gT := gT_at 50 rfl rfl
set_option maxRecDepth 100000 in
theorem tw17 : Cond.code objectInit object_method_1_code 1 (Option.none : Option FieldType) ∈ gT := gT_at 51 rfl rfl
set_option maxRecDepth 100000 in
theorem tw18 : Cond.classLink "CutTrees" 7 "CutTrees$Graph" ∈ gT := gT_at 52 rfl rfl
set_option maxRecDepth 100000 in
theorem tw19 : Cond.instantiable "CutTrees$Graph" 9 ∈ gT := gT_at 53 rfl rfl
set_option maxRecDepth 100000 in
theorem tw21 : Cond.instanceMethod yX2_init ∈ gT := gT_at 55 rfl rfl
set_option maxRecDepth 100000 in
theorem tw22 : Cond.code yX2_init prog_4_method_1_code 1 (Option.none : Option FieldType) ∈ gT := gT_at 56 rfl rfl
set_option maxRecDepth 100000 in
theorem tw23 : Cond.methodLink "CutTrees$Graph" 3 objectInit ∈ gT := gT_at 57 rfl rfl
set_option maxRecDepth 100000 in
theorem tw24 : Cond.classLink "CutTrees$Graph" 21 "[[I" ∈ gT := gT_at 58 rfl rfl
set_option maxRecDepth 100000 in
theorem tw26 : Cond.fieldLink "CutTrees$Graph" 9 "CutTrees$Graph" "from" "[I" ∈ gT := gT_at 60 rfl rfl
set_option maxRecDepth 100000 in
theorem tw27 : Cond.fieldLink "CutTrees$Drawing" 35 "CutTrees$Graph" "from" "[I" ∈ gT := gT_at 61 rfl rfl
set_option maxRecDepth 100000 in
theorem tw28 : Cond.fieldLink "CutTrees$Graph" 15 "CutTrees$Graph" "to" "[I" ∈ gT := gT_at 62 rfl rfl
set_option maxRecDepth 100000 in
theorem tw29 : Cond.fieldLink "CutTrees$Drawing" 38 "CutTrees$Graph" "to" "[I" ∈ gT := gT_at 63 rfl rfl
set_option maxRecDepth 100000 in
theorem tw30 : Cond.fieldLink "CutTrees$Graph" 18 "CutTrees$Graph" "weight" "[I" ∈ gT := gT_at 64 rfl rfl
set_option maxRecDepth 100000 in
theorem tw31 : Cond.fieldLink "CutTrees$Drawing" 48 "CutTrees$Graph" "weight" "[I" ∈ gT := gT_at 65 rfl rfl
set_option maxRecDepth 100000 in
theorem tw32 : Cond.fieldLink "CutTrees$Graph" 23 "CutTrees$Graph" "weightBetween" "[[I" ∈ gT := gT_at 66 rfl rfl
set_option maxRecDepth 100000 in
theorem tw33 : Cond.fieldLink "CutTrees$CutTable" 35 "CutTrees$Graph" "weightBetween" "[[I" ∈ gT := gT_at 67 rfl rfl
set_option maxRecDepth 100000 in
theorem tw34 : Cond.fieldLink "CutTrees$Parting" 61 "CutTrees$Graph" "weightBetween" "[[I" ∈ gT := gT_at 68 rfl rfl
set_option maxRecDepth 100000 in
theorem tw35 : Cond.fieldLink "CutTrees$Graph" 26 "CutTrees$Graph" "neighbours" "[I" ∈ gT := gT_at 69 rfl rfl
set_option maxRecDepth 100000 in
theorem tw36 : Cond.fieldLink "CutTrees$Graph" 29 "CutTrees$Graph" "nodes" "I" ∈ gT := gT_at 70 rfl rfl
set_option maxRecDepth 100000 in
theorem tw37 : Cond.fieldLink "CutTrees" 50 "CutTrees$Graph" "nodes" "I" ∈ gT := gT_at 71 rfl rfl
set_option maxRecDepth 100000 in
theorem tw38 : Cond.fieldLink "CutTrees$Drawing" 19 "CutTrees$Graph" "nodes" "I" ∈ gT := gT_at 72 rfl rfl
set_option maxRecDepth 100000 in
theorem tw39 : Cond.fieldLink "CutTrees$Parting" 37 "CutTrees$Graph" "nodes" "I" ∈ gT := gT_at 73 rfl rfl
set_option maxRecDepth 100000 in
theorem tw40 : Cond.fieldLink "CutTrees$CutTable" 28 "CutTrees$Graph" "nodes" "I" ∈ gT := gT_at 74 rfl rfl
set_option maxRecDepth 100000 in
theorem tw41 : Cond.fieldLink "CutTrees$PairTree" 35 "CutTrees$Graph" "nodes" "I" ∈ gT := gT_at 75 rfl rfl
set_option maxRecDepth 100000 in
theorem tw42 : Cond.fieldLink "CutTrees$Graph" 33 "CutTrees$Graph" "arcsMade" "I" ∈ gT := gT_at 76 rfl rfl
set_option maxRecDepth 100000 in
theorem tw43 : Cond.fieldLink "CutTrees" 62 "CutTrees$Graph" "arcsMade" "I" ∈ gT := gT_at 77 rfl rfl
set_option maxRecDepth 100000 in
theorem tw44 : Cond.fieldLink "CutTrees$Drawing" 41 "CutTrees$Graph" "arcsMade" "I" ∈ gT := gT_at 78 rfl rfl
set_option maxRecDepth 100000 in
theorem tw45 : Cond.fieldLink "CutTrees$Graph" 36 "CutTrees$Graph" "arcsLeft" "I" ∈ gT := gT_at 79 rfl rfl
set_option maxRecDepth 100000 in
theorem tw46 : Cond.fieldLink "CutTrees$Graph" 39 "CutTrees$Graph" "changes" "I" ∈ gT := gT_at 80 rfl rfl
set_option maxRecDepth 100000 in
theorem tw47 : Cond.fieldLink "CutTrees$CutTable" 23 "CutTrees$Graph" "changes" "I" ∈ gT := gT_at 81 rfl rfl
set_option maxRecDepth 100000 in
theorem tw48 : Cond.fieldLink "CutTrees$PairTree" 30 "CutTrees$Graph" "changes" "I" ∈ gT := gT_at 82 rfl rfl
set_option maxRecDepth 100000 in
theorem tw49 : Cond.fieldLink "CutTrees$Parting" 32 "CutTrees$Graph" "changes" "I" ∈ gT := gT_at 83 rfl rfl
set_option maxRecDepth 100000 in
theorem tw69 : Cond.arrayClass FieldType.int ∈ gT := gT_at 103 rfl rfl
set_option maxRecDepth 100000 in
theorem tw70 : Cond.classLink "CutTrees" 16 "CutTrees$CutTable" ∈ gT := gT_at 104 rfl rfl
set_option maxRecDepth 100000 in
theorem tw71 : Cond.instantiable "CutTrees$CutTable" 3 ∈ gT := gT_at 105 rfl rfl
set_option maxRecDepth 100000 in
theorem tw72 : Cond.methodLink "CutTrees" 18 yX0_init ∈ gT := gT_at 106 rfl rfl
set_option maxRecDepth 100000 in
theorem tw73 : Cond.instanceMethod yX0_init ∈ gT := gT_at 107 rfl rfl
set_option maxRecDepth 100000 in
theorem tw74 : Cond.code yX0_init prog_2_method_1_code 2 (Option.none : Option FieldType) ∈ gT := gT_at 108 rfl rfl
set_option maxRecDepth 100000 in
theorem tw75 : Cond.methodLink "CutTrees$CutTable" 3 objectInit ∈ gT := gT_at 109 rfl rfl
set_option maxRecDepth 100000 in
theorem tw76 : Cond.fieldLink "CutTrees$CutTable" 19 "CutTrees$CutTable" "graph" "LCutTrees$Graph;" ∈ gT := gT_at 110 rfl rfl
set_option maxRecDepth 100000 in
theorem tw77 : Cond.fieldLink "CutTrees$CutTable" 9 "CutTrees$CutTable" "cuts" "[I" ∈ gT := gT_at 111 rfl rfl
set_option maxRecDepth 100000 in
theorem tw78 : Cond.fieldLink "CutTrees$CutTable" 15 "CutTrees$CutTable" "changesSeen" "I" ∈ gT := gT_at 112 rfl rfl
set_option maxRecDepth 100000 in
theorem tw86 : Cond.classLink "CutTrees" 25 "CutTrees$PairTree" ∈ gT := gT_at 120 rfl rfl
set_option maxRecDepth 100000 in
theorem tw87 : Cond.instantiable "CutTrees$PairTree" 5 ∈ gT := gT_at 121 rfl rfl
set_option maxRecDepth 100000 in
theorem tw88 : Cond.methodLink "CutTrees" 27 yX3_init ∈ gT := gT_at 122 rfl rfl
set_option maxRecDepth 100000 in
theorem tw89 : Cond.instanceMethod yX3_init ∈ gT := gT_at 123 rfl rfl
set_option maxRecDepth 100000 in
theorem tw90 : Cond.code yX3_init prog_5_method_1_code 3 (Option.none : Option FieldType) ∈ gT := gT_at 124 rfl rfl
set_option maxRecDepth 100000 in
theorem tw91 : Cond.methodLink "CutTrees$PairTree" 3 objectInit ∈ gT := gT_at 125 rfl rfl
set_option maxRecDepth 100000 in
theorem tw92 : Cond.fieldLink "CutTrees$PairTree" 22 "CutTrees$PairTree" "graph" "LCutTrees$Graph;" ∈ gT := gT_at 126 rfl rfl
set_option maxRecDepth 100000 in
theorem tw93 : Cond.fieldLink "CutTrees$PairTree" 26 "CutTrees$PairTree" "table" "LCutTrees$CutTable;" ∈ gT := gT_at 127 rfl rfl
set_option maxRecDepth 100000 in
theorem tw94 : Cond.fieldLink "CutTrees$PairTree" 9 "CutTrees$PairTree" "parents" "[I" ∈ gT := gT_at 128 rfl rfl
set_option maxRecDepth 100000 in
theorem tw95 : Cond.fieldLink "CutTrees" 104 "CutTrees$PairTree" "parents" "[I" ∈ gT := gT_at 129 rfl rfl
set_option maxRecDepth 100000 in
theorem tw96 : Cond.fieldLink "CutTrees$PairTree" 15 "CutTrees$PairTree" "branches" "[I" ∈ gT := gT_at 130 rfl rfl
set_option maxRecDepth 100000 in
theorem tw97 : Cond.fieldLink "CutTrees" 108 "CutTrees$PairTree" "branches" "[I" ∈ gT := gT_at 131 rfl rfl
set_option maxRecDepth 100000 in
theorem tw98 : Cond.fieldLink "CutTrees$PairTree" 18 "CutTrees$PairTree" "changesSeen" "I" ∈ gT := gT_at 132 rfl rfl
set_option maxRecDepth 100000 in
theorem tw110 : Cond.classLink "CutTrees" 34 "CutTrees$Drawing" ∈ gT := gT_at 144 rfl rfl
set_option maxRecDepth 100000 in
theorem tw111 : Cond.instantiable "CutTrees$Drawing" 2 ∈ gT := gT_at 145 rfl rfl
set_option maxRecDepth 100000 in
theorem tw112 : Cond.methodLink "CutTrees" 36 yX1_init ∈ gT := gT_at 146 rfl rfl
set_option maxRecDepth 100000 in
theorem tw113 : Cond.instanceMethod yX1_init ∈ gT := gT_at 147 rfl rfl
set_option maxRecDepth 100000 in
theorem tw114 : Cond.code yX1_init prog_3_method_1_code 2 (Option.none : Option FieldType) ∈ gT := gT_at 148 rfl rfl
set_option maxRecDepth 100000 in
theorem tw115 : Cond.methodLink "CutTrees$Drawing" 3 objectInit ∈ gT := gT_at 149 rfl rfl
set_option maxRecDepth 100000 in
theorem tw116 : Cond.fieldLink "CutTrees$Drawing" 15 "CutTrees$Drawing" "graph" "LCutTrees$Graph;" ∈ gT := gT_at 150 rfl rfl
set_option maxRecDepth 100000 in
theorem tw117 : Cond.fieldLink "CutTrees$Drawing" 9 "CutTrees$Drawing" "groups" "[I" ∈ gT := gT_at 151 rfl rfl
set_option maxRecDepth 100000 in
theorem tw123 : Cond.classLink "CutTrees" 41 "CutTrees$Parting" ∈ gT := gT_at 157 rfl rfl
set_option maxRecDepth 100000 in
theorem tw125 : Cond.instantiable "CutTrees$Parting" 6 ∈ gT := gT_at 159 rfl rfl
set_option maxRecDepth 100000 in
theorem tw126 : Cond.methodLink "CutTrees" 47 yX4_init ∈ gT := gT_at 160 rfl rfl
set_option maxRecDepth 100000 in
theorem tw127 : Cond.instanceMethod yX4_init ∈ gT := gT_at 161 rfl rfl
set_option maxRecDepth 100000 in
theorem tw128 : Cond.code yX4_init prog_6_method_1_code 3 (Option.none : Option FieldType) ∈ gT := gT_at 162 rfl rfl
set_option maxRecDepth 100000 in
theorem tw129 : Cond.methodLink "CutTrees$Parting" 3 objectInit ∈ gT := gT_at 163 rfl rfl
set_option maxRecDepth 100000 in
theorem tw130 : Cond.fieldLink "CutTrees$Parting" 25 "CutTrees$Parting" "graph" "LCutTrees$Graph;" ∈ gT := gT_at 164 rfl rfl
set_option maxRecDepth 100000 in
theorem tw131 : Cond.fieldLink "CutTrees$Parting" 29 "CutTrees$Parting" "k" "I" ∈ gT := gT_at 165 rfl rfl
set_option maxRecDepth 100000 in
theorem tw132 : Cond.fieldLink "CutTrees$Parting" 9 "CutTrees$Parting" "tried" "[I" ∈ gT := gT_at 166 rfl rfl
set_option maxRecDepth 100000 in
theorem tw133 : Cond.fieldLink "CutTrees$Parting" 15 "CutTrees$Parting" "best" "[I" ∈ gT := gT_at 167 rfl rfl
set_option maxRecDepth 100000 in
theorem tw134 : Cond.fieldLink "CutTrees" 140 "CutTrees$Parting" "best" "[I" ∈ gT := gT_at 168 rfl rfl
set_option maxRecDepth 100000 in
theorem tw135 : Cond.fieldLink "CutTrees$Parting" 18 "CutTrees$Parting" "leastCost" "I" ∈ gT := gT_at 169 rfl rfl
set_option maxRecDepth 100000 in
theorem tw136 : Cond.fieldLink "CutTrees" 137 "CutTrees$Parting" "leastCost" "I" ∈ gT := gT_at 170 rfl rfl
set_option maxRecDepth 100000 in
theorem tw137 : Cond.fieldLink "CutTrees$Parting" 22 "CutTrees$Parting" "changesSeen" "I" ∈ gT := gT_at 171 rfl rfl
set_option maxRecDepth 100000 in
theorem tw151 : Cond.fieldLink "CutTrees" 10 "CutTrees" "graph" "LCutTrees$Graph;" ∈ gT := gT_at 185 rfl rfl
set_option maxRecDepth 100000 in
theorem tw152 : Cond.fieldLink "CutTrees" 21 "CutTrees" "table" "LCutTrees$CutTable;" ∈ gT := gT_at 186 rfl rfl
set_option maxRecDepth 100000 in
theorem tw153 : Cond.fieldLink "CutTrees" 30 "CutTrees" "tree" "LCutTrees$PairTree;" ∈ gT := gT_at 187 rfl rfl
set_option maxRecDepth 100000 in
theorem tw154 : Cond.fieldLink "CutTrees" 37 "CutTrees" "drawing" "LCutTrees$Drawing;" ∈ gT := gT_at 188 rfl rfl
set_option maxRecDepth 100000 in
theorem tw155 : Cond.fieldLink "CutTrees" 43 "CutTrees" "partings" "[LCutTrees$Parting;" ∈ gT := gT_at 189 rfl rfl
set_option maxRecDepth 100000 in
theorem tw167 : Cond.methodLink "CutTreesLaw" 13 yX5_node ∈ gT := gT_at 201 rfl rfl
set_option maxRecDepth 100000 in
theorem tw168 : Cond.instanceMethod yX5_node ∈ gT := gT_at 202 rfl rfl
set_option maxRecDepth 100000 in
theorem tw169 : Cond.selects "CutTrees" yX5_node yX5_node ∈ gT := gT_at 203 rfl rfl
set_option maxRecDepth 100000 in
theorem tw170 : Cond.code yX5_node prog_1_method_2_code 1 (Option.some FieldType.int) ∈ gT := gT_at 204 rfl rfl
set_option maxRecDepth 100000 in
theorem tw171 : Cond.methodLink "CutTrees" 54 yX2_addNode ∈ gT := gT_at 205 rfl rfl
set_option maxRecDepth 100000 in
theorem tw172 : Cond.instanceMethod yX2_addNode ∈ gT := gT_at 206 rfl rfl
set_option maxRecDepth 100000 in
theorem tw173 : Cond.selects "CutTrees$Graph" yX2_addNode yX2_addNode ∈ gT := gT_at 207 rfl rfl
set_option maxRecDepth 100000 in
theorem tw174 : Cond.code yX2_addNode prog_4_method_9_code 1 (Option.some FieldType.int) ∈ gT := gT_at 208 rfl rfl
set_option maxRecDepth 100000 in
theorem tw175 : Cond.methodLink "CutTreesLaw" 18 yX5_arc ∈ gT := gT_at 209 rfl rfl
set_option maxRecDepth 100000 in
theorem tw176 : Cond.instanceMethod yX5_arc ∈ gT := gT_at 210 rfl rfl
set_option maxRecDepth 100000 in
theorem tw177 : Cond.selects "CutTrees" yX5_arc yX5_arc ∈ gT := gT_at 211 rfl rfl
set_option maxRecDepth 100000 in
theorem tw178 : Cond.code yX5_arc prog_1_method_3_code 4 (Option.some FieldType.int) ∈ gT := gT_at 212 rfl rfl
set_option maxRecDepth 100000 in
theorem tw179 : Cond.methodLink "CutTrees" 58 yX2_hasPair ∈ gT := gT_at 213 rfl rfl
set_option maxRecDepth 100000 in
theorem tw180 : Cond.instanceMethod yX2_hasPair ∈ gT := gT_at 214 rfl rfl
set_option maxRecDepth 100000 in
theorem tw181 : Cond.selects "CutTrees$Graph" yX2_hasPair yX2_hasPair ∈ gT := gT_at 215 rfl rfl
set_option maxRecDepth 100000 in
theorem tw182 : Cond.code yX2_hasPair prog_4_method_3_code 3 (Option.some FieldType.boolean) ∈ gT := gT_at 216 rfl rfl
set_option maxRecDepth 100000 in
theorem tw183 : Cond.methodLink "CutTrees$Graph" 42 yX2_hasNode ∈ gT := gT_at 217 rfl rfl
set_option maxRecDepth 100000 in
theorem tw184 : Cond.instanceMethod yX2_hasNode ∈ gT := gT_at 218 rfl rfl
set_option maxRecDepth 100000 in
theorem tw185 : Cond.selects "CutTrees$Graph" yX2_hasNode yX2_hasNode ∈ gT := gT_at 219 rfl rfl
set_option maxRecDepth 100000 in
theorem tw186 : Cond.code yX2_hasNode prog_4_method_2_code 2 (Option.some FieldType.boolean) ∈ gT := gT_at 220 rfl rfl
set_option maxRecDepth 100000 in
theorem tw187 : Cond.methodLink "CutTrees" 65 yX2_addArc ∈ gT := gT_at 221 rfl rfl
set_option maxRecDepth 100000 in
theorem tw188 : Cond.instanceMethod yX2_addArc ∈ gT := gT_at 222 rfl rfl
set_option maxRecDepth 100000 in
theorem tw189 : Cond.selects "CutTrees$Graph" yX2_addArc yX2_addArc ∈ gT := gT_at 223 rfl rfl
set_option maxRecDepth 100000 in
theorem tw190 : Cond.code yX2_addArc prog_4_method_10_code 5 (Option.some FieldType.int) ∈ gT := gT_at 224 rfl rfl
set_option maxRecDepth 100000 in
theorem tw191 : Cond.methodLink "CutTrees$Graph" 50 yX2_addBetween ∈ gT := gT_at 225 rfl rfl
set_option maxRecDepth 100000 in
theorem tw193 : Cond.instanceMethod yX2_addBetween ∈ gT := gT_at 227 rfl rfl
set_option maxRecDepth 100000 in
theorem tw194 : Cond.code yX2_addBetween prog_4_method_12_code 4 (Option.none : Option FieldType) ∈ gT := gT_at 228 rfl rfl
set_option maxRecDepth 100000 in
theorem tw195 : Cond.methodLink "CutTrees$Graph" 54 yX2_areJoined ∈ gT := gT_at 229 rfl rfl
set_option maxRecDepth 100000 in
theorem tw196 : Cond.instanceMethod yX2_areJoined ∈ gT := gT_at 230 rfl rfl
set_option maxRecDepth 100000 in
theorem tw197 : Cond.selects "CutTrees$Graph" yX2_areJoined yX2_areJoined ∈ gT := gT_at 231 rfl rfl
set_option maxRecDepth 100000 in
theorem tw198 : Cond.code yX2_areJoined prog_4_method_7_code 3 (Option.some FieldType.boolean) ∈ gT := gT_at 232 rfl rfl
set_option maxRecDepth 100000 in
theorem tw199 : Cond.methodLink "CutTreesLaw" 23 yX5_drop ∈ gT := gT_at 233 rfl rfl
set_option maxRecDepth 100000 in
theorem tw200 : Cond.instanceMethod yX5_drop ∈ gT := gT_at 234 rfl rfl
set_option maxRecDepth 100000 in
theorem tw201 : Cond.selects "CutTrees" yX5_drop yX5_drop ∈ gT := gT_at 235 rfl rfl
set_option maxRecDepth 100000 in
theorem tw202 : Cond.code yX5_drop prog_1_method_4_code 2 (Option.some FieldType.int) ∈ gT := gT_at 236 rfl rfl
set_option maxRecDepth 100000 in
theorem tw203 : Cond.methodLink "CutTrees" 69 yX2_hasArc ∈ gT := gT_at 237 rfl rfl
set_option maxRecDepth 100000 in
theorem tw204 : Cond.instanceMethod yX2_hasArc ∈ gT := gT_at 238 rfl rfl
set_option maxRecDepth 100000 in
theorem tw205 : Cond.selects "CutTrees$Graph" yX2_hasArc yX2_hasArc ∈ gT := gT_at 239 rfl rfl
set_option maxRecDepth 100000 in
theorem tw206 : Cond.code yX2_hasArc prog_4_method_4_code 2 (Option.some FieldType.boolean) ∈ gT := gT_at 240 rfl rfl
set_option maxRecDepth 100000 in
theorem tw207 : Cond.methodLink "CutTrees" 73 yX2_removeArc ∈ gT := gT_at 241 rfl rfl
set_option maxRecDepth 100000 in
theorem tw208 : Cond.instanceMethod yX2_removeArc ∈ gT := gT_at 242 rfl rfl
set_option maxRecDepth 100000 in
theorem tw209 : Cond.selects "CutTrees$Graph" yX2_removeArc yX2_removeArc ∈ gT := gT_at 243 rfl rfl
set_option maxRecDepth 100000 in
theorem tw210 : Cond.code yX2_removeArc prog_4_method_11_code 2 (Option.some FieldType.int) ∈ gT := gT_at 244 rfl rfl
set_option maxRecDepth 100000 in
theorem tw211 : Cond.methodLink "CutTreesLaw" 28 yX5_clear ∈ gT := gT_at 245 rfl rfl
set_option maxRecDepth 100000 in
theorem tw212 : Cond.instanceMethod yX5_clear ∈ gT := gT_at 246 rfl rfl
set_option maxRecDepth 100000 in
theorem tw213 : Cond.selects "CutTrees" yX5_clear yX5_clear ∈ gT := gT_at 247 rfl rfl
set_option maxRecDepth 100000 in
theorem tw214 : Cond.code yX5_clear prog_1_method_5_code 1 (Option.some FieldType.int) ∈ gT := gT_at 248 rfl rfl
set_option maxRecDepth 100000 in
theorem tw215 : Cond.methodLink "CutTrees" 77 yX2_removeAll ∈ gT := gT_at 249 rfl rfl
set_option maxRecDepth 100000 in
theorem tw216 : Cond.instanceMethod yX2_removeAll ∈ gT := gT_at 250 rfl rfl
set_option maxRecDepth 100000 in
theorem tw217 : Cond.selects "CutTrees$Graph" yX2_removeAll yX2_removeAll ∈ gT := gT_at 251 rfl rfl
set_option maxRecDepth 100000 in
theorem tw218 : Cond.code yX2_removeAll prog_4_method_13_code 4 (Option.some FieldType.int) ∈ gT := gT_at 252 rfl rfl
set_option maxRecDepth 100000 in
theorem tw219 : Cond.methodLink "CutTreesLaw" 32 yX5_cut ∈ gT := gT_at 253 rfl rfl
set_option maxRecDepth 100000 in
theorem tw220 : Cond.instanceMethod yX5_cut ∈ gT := gT_at 254 rfl rfl
set_option maxRecDepth 100000 in
theorem tw221 : Cond.selects "CutTrees" yX5_cut yX5_cut ∈ gT := gT_at 255 rfl rfl
set_option maxRecDepth 100000 in
theorem tw222 : Cond.code yX5_cut prog_1_method_6_code 2 (Option.some FieldType.int) ∈ gT := gT_at 256 rfl rfl
set_option maxRecDepth 100000 in
theorem tw223 : Cond.methodLink "CutTrees" 80 yX2_hasSet ∈ gT := gT_at 257 rfl rfl
set_option maxRecDepth 100000 in
theorem tw224 : Cond.instanceMethod yX2_hasSet ∈ gT := gT_at 258 rfl rfl
set_option maxRecDepth 100000 in
theorem tw225 : Cond.selects "CutTrees$Graph" yX2_hasSet yX2_hasSet ∈ gT := gT_at 259 rfl rfl
set_option maxRecDepth 100000 in
theorem tw226 : Cond.code yX2_hasSet prog_4_method_5_code 2 (Option.some FieldType.boolean) ∈ gT := gT_at 260 rfl rfl
set_option maxRecDepth 100000 in
theorem tw227 : Cond.methodLink "CutTrees$Graph" 46 yX2_allNodes ∈ gT := gT_at 261 rfl rfl
set_option maxRecDepth 100000 in
theorem tw228 : Cond.instanceMethod yX2_allNodes ∈ gT := gT_at 262 rfl rfl
set_option maxRecDepth 100000 in
theorem tw229 : Cond.selects "CutTrees$Graph" yX2_allNodes yX2_allNodes ∈ gT := gT_at 263 rfl rfl
set_option maxRecDepth 100000 in
theorem tw230 : Cond.code yX2_allNodes prog_4_method_8_code 1 (Option.some FieldType.int) ∈ gT := gT_at 264 rfl rfl
set_option maxRecDepth 100000 in
theorem tw231 : Cond.methodLink "CutTrees" 83 yX2_cutAround ∈ gT := gT_at 265 rfl rfl
set_option maxRecDepth 100000 in
theorem tw232 : Cond.instanceMethod yX2_cutAround ∈ gT := gT_at 266 rfl rfl
set_option maxRecDepth 100000 in
theorem tw233 : Cond.selects "CutTrees$Graph" yX2_cutAround yX2_cutAround ∈ gT := gT_at 267 rfl rfl
set_option maxRecDepth 100000 in
theorem tw234 : Cond.code yX2_cutAround prog_4_method_14_code 4 (Option.some FieldType.int) ∈ gT := gT_at 268 rfl rfl
set_option maxRecDepth 100000 in
theorem tw235 : Cond.methodLink "CutTreesLaw" 36 yX5_pair ∈ gT := gT_at 269 rfl rfl
set_option maxRecDepth 100000 in
theorem tw236 : Cond.instanceMethod yX5_pair ∈ gT := gT_at 270 rfl rfl
set_option maxRecDepth 100000 in
theorem tw237 : Cond.selects "CutTrees" yX5_pair yX5_pair ∈ gT := gT_at 271 rfl rfl
set_option maxRecDepth 100000 in
theorem tw238 : Cond.code yX5_pair prog_1_method_7_code 3 (Option.some FieldType.int) ∈ gT := gT_at 272 rfl rfl
set_option maxRecDepth 100000 in
theorem tw239 : Cond.methodLink "CutTrees" 86 yX5_freshTable ∈ gT := gT_at 273 rfl rfl
set_option maxRecDepth 100000 in
theorem tw241 : Cond.instanceMethod yX5_freshTable ∈ gT := gT_at 275 rfl rfl
set_option maxRecDepth 100000 in
theorem tw242 : Cond.code yX5_freshTable prog_1_method_25_code 1 (Option.some (FieldType.object "CutTrees$CutTable")) ∈ gT := gT_at 276 rfl rfl
set_option maxRecDepth 100000 in
theorem tw243 : Cond.methodLink "CutTrees" 175 yX0_refresh ∈ gT := gT_at 277 rfl rfl
set_option maxRecDepth 100000 in
theorem tw244 : Cond.instanceMethod yX0_refresh ∈ gT := gT_at 278 rfl rfl
set_option maxRecDepth 100000 in
theorem tw245 : Cond.selects "CutTrees$CutTable" yX0_refresh yX0_refresh ∈ gT := gT_at 279 rfl rfl
set_option maxRecDepth 100000 in
theorem tw246 : Cond.code yX0_refresh prog_2_method_2_code 2 (Option.none : Option FieldType) ∈ gT := gT_at 280 rfl rfl
set_option maxRecDepth 100000 in
theorem tw247 : Cond.methodLink "CutTrees$CutTable" 31 yX0_fillSetsUpTo ∈ gT := gT_at 281 rfl rfl
set_option maxRecDepth 100000 in
theorem tw249 : Cond.instanceMethod yX0_fillSetsUpTo ∈ gT := gT_at 283 rfl rfl
set_option maxRecDepth 100000 in
theorem tw250 : Cond.code yX0_fillSetsUpTo prog_2_method_3_code 7 (Option.none : Option FieldType) ∈ gT := gT_at 284 rfl rfl
set_option maxRecDepth 100000 in
theorem tw251 : Cond.methodLink "CutTrees$CutTable" 39 yX2_weightAt ∈ gT := gT_at 285 rfl rfl
set_option maxRecDepth 100000 in
theorem tw252 : Cond.instanceMethod yX2_weightAt ∈ gT := gT_at 286 rfl rfl
set_option maxRecDepth 100000 in
theorem tw253 : Cond.selects "CutTrees$Graph" yX2_weightAt yX2_weightAt ∈ gT := gT_at 287 rfl rfl
set_option maxRecDepth 100000 in
theorem tw254 : Cond.code yX2_weightAt prog_4_method_15_code 4 (Option.some FieldType.int) ∈ gT := gT_at 288 rfl rfl
set_option maxRecDepth 100000 in
theorem tw255 : Cond.methodLink "CutTrees" 90 yX0_cutBetween ∈ gT := gT_at 289 rfl rfl
set_option maxRecDepth 100000 in
theorem tw256 : Cond.instanceMethod yX0_cutBetween ∈ gT := gT_at 290 rfl rfl
set_option maxRecDepth 100000 in
theorem tw257 : Cond.selects "CutTrees$CutTable" yX0_cutBetween yX0_cutBetween ∈ gT := gT_at 291 rfl rfl
set_option maxRecDepth 100000 in
theorem tw258 : Cond.code yX0_cutBetween prog_2_method_5_code 3 (Option.some FieldType.int) ∈ gT := gT_at 292 rfl rfl
set_option maxRecDepth 100000 in
theorem tw259 : Cond.methodLink "CutTrees$CutTable" 47 yX0_sideAgainst ∈ gT := gT_at 293 rfl rfl
set_option maxRecDepth 100000 in
theorem tw260 : Cond.instanceMethod yX0_sideAgainst ∈ gT := gT_at 294 rfl rfl
set_option maxRecDepth 100000 in
theorem tw261 : Cond.selects "CutTrees$CutTable" yX0_sideAgainst yX0_sideAgainst ∈ gT := gT_at 295 rfl rfl
set_option maxRecDepth 100000 in
theorem tw262 : Cond.code yX0_sideAgainst prog_2_method_6_code 11 (Option.some FieldType.int) ∈ gT := gT_at 296 rfl rfl
set_option maxRecDepth 100000 in
theorem tw263 : Cond.methodLink "CutTrees$CutTable" 43 yX2_allNodes ∈ gT := gT_at 297 rfl rfl
set_option maxRecDepth 100000 in
theorem tw264 : Cond.methodLink "CutTrees$CutTable" 51 yX0_cutAt ∈ gT := gT_at 298 rfl rfl
set_option maxRecDepth 100000 in
theorem tw265 : Cond.instanceMethod yX0_cutAt ∈ gT := gT_at 299 rfl rfl
set_option maxRecDepth 100000 in
theorem tw266 : Cond.selects "CutTrees$CutTable" yX0_cutAt yX0_cutAt ∈ gT := gT_at 300 rfl rfl
set_option maxRecDepth 100000 in
theorem tw267 : Cond.code yX0_cutAt prog_2_method_4_code 3 (Option.some FieldType.int) ∈ gT := gT_at 301 rfl rfl
set_option maxRecDepth 100000 in
theorem tw269 : Cond.static yX5_nextWithin ∈ gT := gT_at 303 rfl rfl
set_option maxRecDepth 100000 in
theorem tw270 : Cond.code yX5_nextWithin prog_1_method_28_code 2 (Option.some FieldType.int) ∈ gT := gT_at 304 rfl rfl
set_option maxRecDepth 100000 in
theorem tw271 : Cond.methodLink "CutTreesLaw" 41 yX5_side ∈ gT := gT_at 305 rfl rfl
set_option maxRecDepth 100000 in
theorem tw272 : Cond.instanceMethod yX5_side ∈ gT := gT_at 306 rfl rfl
set_option maxRecDepth 100000 in
theorem tw273 : Cond.selects "CutTrees" yX5_side yX5_side ∈ gT := gT_at 307 rfl rfl
set_option maxRecDepth 100000 in
theorem tw274 : Cond.code yX5_side prog_1_method_8_code 3 (Option.some FieldType.int) ∈ gT := gT_at 308 rfl rfl
set_option maxRecDepth 100000 in
theorem tw275 : Cond.methodLink "CutTrees" 94 yX0_sideAgainst ∈ gT := gT_at 309 rfl rfl
set_option maxRecDepth 100000 in
theorem tw276 : Cond.methodLink "CutTreesLaw" 45 yX5_parent ∈ gT := gT_at 310 rfl rfl
set_option maxRecDepth 100000 in
theorem tw277 : Cond.instanceMethod yX5_parent ∈ gT := gT_at 311 rfl rfl
set_option maxRecDepth 100000 in
theorem tw278 : Cond.selects "CutTrees" yX5_parent yX5_parent ∈ gT := gT_at 312 rfl rfl
set_option maxRecDepth 100000 in
theorem tw279 : Cond.code yX5_parent prog_1_method_9_code 2 (Option.some FieldType.int) ∈ gT := gT_at 313 rfl rfl
set_option maxRecDepth 100000 in
theorem tw280 : Cond.methodLink "CutTrees" 97 yX2_hasNode ∈ gT := gT_at 314 rfl rfl
set_option maxRecDepth 100000 in
theorem tw281 : Cond.methodLink "CutTrees" 100 yX5_freshTree ∈ gT := gT_at 315 rfl rfl
set_option maxRecDepth 100000 in
theorem tw283 : Cond.instanceMethod yX5_freshTree ∈ gT := gT_at 317 rfl rfl
set_option maxRecDepth 100000 in
theorem tw284 : Cond.code yX5_freshTree prog_1_method_26_code 1 (Option.some (FieldType.object "CutTrees$PairTree")) ∈ gT := gT_at 318 rfl rfl
set_option maxRecDepth 100000 in
theorem tw285 : Cond.methodLink "CutTrees" 178 yX3_refresh ∈ gT := gT_at 319 rfl rfl
set_option maxRecDepth 100000 in
theorem tw286 : Cond.instanceMethod yX3_refresh ∈ gT := gT_at 320 rfl rfl
set_option maxRecDepth 100000 in
theorem tw287 : Cond.selects "CutTrees$PairTree" yX3_refresh yX3_refresh ∈ gT := gT_at 321 rfl rfl
set_option maxRecDepth 100000 in
theorem tw288 : Cond.code yX3_refresh prog_5_method_2_code 2 (Option.none : Option FieldType) ∈ gT := gT_at 322 rfl rfl
set_option maxRecDepth 100000 in
theorem tw289 : Cond.methodLink "CutTrees$PairTree" 38 yX3_hang ∈ gT := gT_at 323 rfl rfl
set_option maxRecDepth 100000 in
theorem tw291 : Cond.instanceMethod yX3_hang ∈ gT := gT_at 325 rfl rfl
set_option maxRecDepth 100000 in
theorem tw292 : Cond.code yX3_hang prog_5_method_3_code 5 (Option.none : Option FieldType) ∈ gT := gT_at 326 rfl rfl
set_option maxRecDepth 100000 in
theorem tw293 : Cond.methodLink "CutTrees$PairTree" 42 yX0_sideAgainst ∈ gT := gT_at 327 rfl rfl
set_option maxRecDepth 100000 in
theorem tw294 : Cond.methodLink "CutTrees$PairTree" 48 yX0_cutAt ∈ gT := gT_at 328 rfl rfl
set_option maxRecDepth 100000 in
theorem tw295 : Cond.methodLink "CutTreesLaw" 49 yX5_branch ∈ gT := gT_at 329 rfl rfl
set_option maxRecDepth 100000 in
theorem tw296 : Cond.instanceMethod yX5_branch ∈ gT := gT_at 330 rfl rfl
set_option maxRecDepth 100000 in
theorem tw297 : Cond.selects "CutTrees" yX5_branch yX5_branch ∈ gT := gT_at 331 rfl rfl
set_option maxRecDepth 100000 in
theorem tw298 : Cond.code yX5_branch prog_1_method_10_code 2 (Option.some FieldType.int) ∈ gT := gT_at 332 rfl rfl
set_option maxRecDepth 100000 in
theorem tw299 : Cond.methodLink "CutTreesLaw" 53 yX5_way ∈ gT := gT_at 333 rfl rfl
set_option maxRecDepth 100000 in
theorem tw300 : Cond.instanceMethod yX5_way ∈ gT := gT_at 334 rfl rfl
set_option maxRecDepth 100000 in
theorem tw301 : Cond.selects "CutTrees" yX5_way yX5_way ∈ gT := gT_at 335 rfl rfl
set_option maxRecDepth 100000 in
theorem tw302 : Cond.code yX5_way prog_1_method_11_code 3 (Option.some FieldType.int) ∈ gT := gT_at 336 rfl rfl
set_option maxRecDepth 100000 in
theorem tw303 : Cond.methodLink "CutTrees" 111 yX3_leastBranchBetween ∈ gT := gT_at 337 rfl rfl
set_option maxRecDepth 100000 in
theorem tw304 : Cond.instanceMethod yX3_leastBranchBetween ∈ gT := gT_at 338 rfl rfl
set_option maxRecDepth 100000 in
theorem tw305 : Cond.selects "CutTrees$PairTree" yX3_leastBranchBetween yX3_leastBranchBetween ∈ gT := gT_at 339 rfl rfl
set_option maxRecDepth 100000 in
theorem tw306 : Cond.code yX3_leastBranchBetween prog_5_method_4_code 8 (Option.some FieldType.int) ∈ gT := gT_at 340 rfl rfl
set_option maxRecDepth 100000 in
theorem tw307 : Cond.constant "CutTrees$PairTree" 54 (2147483647 : Int32) ∈ gT := gT_at 341 rfl rfl
set_option maxRecDepth 100000 in
theorem tw308 : Cond.methodLink "CutTrees$PairTree" 55 yJM_min ∈ gT := gT_at 342 rfl rfl
set_option maxRecDepth 100000 in
theorem tw309 : Cond.static yJM_min ∈ gT := gT_at 343 rfl rfl
set_option maxRecDepth 100000 in
theorem tw310 : Cond.code yJM_min prog_10_method_69_code 2 (Option.some FieldType.int) ∈ gT := gT_at 344 rfl rfl
set_option maxRecDepth 100000 in
theorem tw311 : Cond.methodLink "CutTrees$PairTree" 60 yJM_max ∈ gT := gT_at 345 rfl rfl
set_option maxRecDepth 100000 in
theorem tw312 : Cond.static yJM_max ∈ gT := gT_at 346 rfl rfl
set_option maxRecDepth 100000 in
theorem tw313 : Cond.code yJM_max prog_10_method_65_code 2 (Option.some FieldType.int) ∈ gT := gT_at 347 rfl rfl
set_option maxRecDepth 100000 in
theorem tw314 : Cond.methodLink "CutTreesLaw" 57 yX5_least ∈ gT := gT_at 348 rfl rfl
set_option maxRecDepth 100000 in
theorem tw315 : Cond.instanceMethod yX5_least ∈ gT := gT_at 349 rfl rfl
set_option maxRecDepth 100000 in
theorem tw316 : Cond.selects "CutTrees" yX5_least yX5_least ∈ gT := gT_at 350 rfl rfl
set_option maxRecDepth 100000 in
theorem tw317 : Cond.code yX5_least prog_1_method_12_code 1 (Option.some FieldType.int) ∈ gT := gT_at 351 rfl rfl
set_option maxRecDepth 100000 in
theorem tw318 : Cond.methodLink "CutTrees" 114 yX2_hasSides ∈ gT := gT_at 352 rfl rfl
set_option maxRecDepth 100000 in
theorem tw319 : Cond.instanceMethod yX2_hasSides ∈ gT := gT_at 353 rfl rfl
set_option maxRecDepth 100000 in
theorem tw320 : Cond.selects "CutTrees$Graph" yX2_hasSides yX2_hasSides ∈ gT := gT_at 354 rfl rfl
set_option maxRecDepth 100000 in
theorem tw321 : Cond.code yX2_hasSides prog_4_method_6_code 1 (Option.some FieldType.boolean) ∈ gT := gT_at 355 rfl rfl
set_option maxRecDepth 100000 in
theorem tw322 : Cond.methodLink "CutTrees" 118 yX0_leastCut ∈ gT := gT_at 356 rfl rfl
set_option maxRecDepth 100000 in
theorem tw323 : Cond.instanceMethod yX0_leastCut ∈ gT := gT_at 357 rfl rfl
set_option maxRecDepth 100000 in
theorem tw324 : Cond.selects "CutTrees$CutTable" yX0_leastCut yX0_leastCut ∈ gT := gT_at 358 rfl rfl
set_option maxRecDepth 100000 in
theorem tw325 : Cond.code yX0_leastCut prog_2_method_7_code 3 (Option.some FieldType.int) ∈ gT := gT_at 359 rfl rfl
set_option maxRecDepth 100000 in
theorem tw326 : Cond.methodLink "CutTrees$CutTable" 57 yJM_min ∈ gT := gT_at 360 rfl rfl
set_option maxRecDepth 100000 in
theorem tw327 : Cond.methodLink "CutTreesLaw" 61 yX5_counted ∈ gT := gT_at 361 rfl rfl
set_option maxRecDepth 100000 in
theorem tw328 : Cond.instanceMethod yX5_counted ∈ gT := gT_at 362 rfl rfl
set_option maxRecDepth 100000 in
theorem tw329 : Cond.selects "CutTrees" yX5_counted yX5_counted ∈ gT := gT_at 363 rfl rfl
set_option maxRecDepth 100000 in
theorem tw330 : Cond.code yX5_counted prog_1_method_13_code 1 (Option.some FieldType.int) ∈ gT := gT_at 364 rfl rfl
set_option maxRecDepth 100000 in
theorem tw331 : Cond.methodLink "CutTrees" 121 yX0_countLeastOnes ∈ gT := gT_at 365 rfl rfl
set_option maxRecDepth 100000 in
theorem tw332 : Cond.instanceMethod yX0_countLeastOnes ∈ gT := gT_at 366 rfl rfl
set_option maxRecDepth 100000 in
theorem tw333 : Cond.selects "CutTrees$CutTable" yX0_countLeastOnes yX0_countLeastOnes ∈ gT := gT_at 367 rfl rfl
set_option maxRecDepth 100000 in
theorem tw334 : Cond.code yX0_countLeastOnes prog_2_method_8_code 4 (Option.some FieldType.int) ∈ gT := gT_at 368 rfl rfl
set_option maxRecDepth 100000 in
theorem tw335 : Cond.methodLink "CutTrees$CutTable" 62 yX0_leastCut ∈ gT := gT_at 369 rfl rfl
set_option maxRecDepth 100000 in
theorem tw336 : Cond.methodLink "CutTreesLaw" 65 yX5_every ∈ gT := gT_at 370 rfl rfl
set_option maxRecDepth 100000 in
theorem tw337 : Cond.instanceMethod yX5_every ∈ gT := gT_at 371 rfl rfl
set_option maxRecDepth 100000 in
theorem tw338 : Cond.selects "CutTrees" yX5_every yX5_every ∈ gT := gT_at 372 rfl rfl
set_option maxRecDepth 100000 in
theorem tw339 : Cond.code yX5_every prog_1_method_14_code 2 (Option.some FieldType.int) ∈ gT := gT_at 373 rfl rfl
set_option maxRecDepth 100000 in
theorem tw340 : Cond.methodLink "CutTrees" 124 yX0_leastOne ∈ gT := gT_at 374 rfl rfl
set_option maxRecDepth 100000 in
theorem tw341 : Cond.instanceMethod yX0_leastOne ∈ gT := gT_at 375 rfl rfl
set_option maxRecDepth 100000 in
theorem tw342 : Cond.selects "CutTrees$CutTable" yX0_leastOne yX0_leastOne ∈ gT := gT_at 376 rfl rfl
set_option maxRecDepth 100000 in
theorem tw343 : Cond.code yX0_leastOne prog_2_method_9_code 5 (Option.some FieldType.int) ∈ gT := gT_at 377 rfl rfl
set_option maxRecDepth 100000 in
theorem tw344 : Cond.methodLink "CutTreesLaw" 69 yX5_drawn ∈ gT := gT_at 378 rfl rfl
set_option maxRecDepth 100000 in
theorem tw345 : Cond.instanceMethod yX5_drawn ∈ gT := gT_at 379 rfl rfl
set_option maxRecDepth 100000 in
theorem tw346 : Cond.selects "CutTrees" yX5_drawn yX5_drawn ∈ gT := gT_at 380 rfl rfl
set_option maxRecDepth 100000 in
theorem tw347 : Cond.code yX5_drawn prog_1_method_15_code 2 (Option.some FieldType.int) ∈ gT := gT_at 381 rfl rfl
set_option maxRecDepth 100000 in
theorem tw348 : Cond.methodLink "CutTrees" 127 yX1_drawBy ∈ gT := gT_at 382 rfl rfl
set_option maxRecDepth 100000 in
theorem tw349 : Cond.instanceMethod yX1_drawBy ∈ gT := gT_at 383 rfl rfl
set_option maxRecDepth 100000 in
theorem tw350 : Cond.selects "CutTrees$Drawing" yX1_drawBy yX1_drawBy ∈ gT := gT_at 384 rfl rfl
set_option maxRecDepth 100000 in
theorem tw351 : Cond.code yX1_drawBy prog_3_method_2_code 5 (Option.some FieldType.int) ∈ gT := gT_at 385 rfl rfl
set_option maxRecDepth 100000 in
theorem tw352 : Cond.methodLink "CutTrees$Drawing" 25 yX1_weightBetweenGroups ∈ gT := gT_at 386 rfl rfl
set_option maxRecDepth 100000 in
theorem tw354 : Cond.instanceMethod yX1_weightBetweenGroups ∈ gT := gT_at 388 rfl rfl
set_option maxRecDepth 100000 in
theorem tw355 : Cond.code yX1_weightBetweenGroups prog_3_method_4_code 3 (Option.some FieldType.int) ∈ gT := gT_at 389 rfl rfl
set_option maxRecDepth 100000 in
theorem tw356 : Cond.methodLink "CutTrees$Drawing" 44 yX1_isBetweenGroups ∈ gT := gT_at 390 rfl rfl
set_option maxRecDepth 100000 in
theorem tw358 : Cond.instanceMethod yX1_isBetweenGroups ∈ gT := gT_at 392 rfl rfl
set_option maxRecDepth 100000 in
theorem tw359 : Cond.code yX1_isBetweenGroups prog_3_method_3_code 2 (Option.some FieldType.boolean) ∈ gT := gT_at 393 rfl rfl
set_option maxRecDepth 100000 in
theorem tw360 : Cond.constant "CutTrees$Drawing" 29 (1664525 : Int32) ∈ gT := gT_at 394 rfl rfl
set_option maxRecDepth 100000 in
theorem tw361 : Cond.constant "CutTrees$Drawing" 30 (1013904223 : Int32) ∈ gT := gT_at 395 rfl rfl
set_option maxRecDepth 100000 in
theorem tw362 : Cond.methodLink "CutTrees$Drawing" 31 yX1_joinByArcAt ∈ gT := gT_at 396 rfl rfl
set_option maxRecDepth 100000 in
theorem tw364 : Cond.instanceMethod yX1_joinByArcAt ∈ gT := gT_at 398 rfl rfl
set_option maxRecDepth 100000 in
theorem tw365 : Cond.code yX1_joinByArcAt prog_3_method_5_code 4 (Option.none : Option FieldType) ∈ gT := gT_at 399 rfl rfl
set_option maxRecDepth 100000 in
theorem tw366 : Cond.methodLink "CutTrees$Drawing" 51 yX1_joinGroups ∈ gT := gT_at 400 rfl rfl
set_option maxRecDepth 100000 in
theorem tw368 : Cond.instanceMethod yX1_joinGroups ∈ gT := gT_at 402 rfl rfl
set_option maxRecDepth 100000 in
theorem tw369 : Cond.code yX1_joinGroups prog_3_method_6_code 3 (Option.none : Option FieldType) ∈ gT := gT_at 403 rfl rfl
set_option maxRecDepth 100000 in
theorem tw370 : Cond.methodLink "CutTreesLaw" 73 yX5_parts ∈ gT := gT_at 404 rfl rfl
set_option maxRecDepth 100000 in
theorem tw371 : Cond.instanceMethod yX5_parts ∈ gT := gT_at 405 rfl rfl
set_option maxRecDepth 100000 in
theorem tw372 : Cond.selects "CutTrees" yX5_parts yX5_parts ∈ gT := gT_at 406 rfl rfl
set_option maxRecDepth 100000 in
theorem tw373 : Cond.code yX5_parts prog_1_method_16_code 3 (Option.some FieldType.int) ∈ gT := gT_at 407 rfl rfl
set_option maxRecDepth 100000 in
theorem tw374 : Cond.methodLink "CutTrees" 130 yX5_refusalOfParts ∈ gT := gT_at 408 rfl rfl
set_option maxRecDepth 100000 in
theorem tw376 : Cond.instanceMethod yX5_refusalOfParts ∈ gT := gT_at 410 rfl rfl
set_option maxRecDepth 100000 in
theorem tw377 : Cond.code yX5_refusalOfParts prog_1_method_18_code 2 (Option.some FieldType.int) ∈ gT := gT_at 411 rfl rfl
set_option maxRecDepth 100000 in
theorem tw378 : Cond.methodLink "CutTrees" 133 yX5_freshParting ∈ gT := gT_at 412 rfl rfl
set_option maxRecDepth 100000 in
theorem tw380 : Cond.instanceMethod yX5_freshParting ∈ gT := gT_at 414 rfl rfl
set_option maxRecDepth 100000 in
theorem tw381 : Cond.code yX5_freshParting prog_1_method_27_code 2 (Option.some (FieldType.object "CutTrees$Parting")) ∈ gT := gT_at 415 rfl rfl
set_option maxRecDepth 100000 in
theorem tw382 : Cond.methodLink "CutTrees" 179 yX4_refresh ∈ gT := gT_at 416 rfl rfl
set_option maxRecDepth 100000 in
theorem tw383 : Cond.instanceMethod yX4_refresh ∈ gT := gT_at 417 rfl rfl
set_option maxRecDepth 100000 in
theorem tw384 : Cond.selects "CutTrees$Parting" yX4_refresh yX4_refresh ∈ gT := gT_at 418 rfl rfl
set_option maxRecDepth 100000 in
theorem tw385 : Cond.code yX4_refresh prog_6_method_2_code 1 (Option.none : Option FieldType) ∈ gT := gT_at 419 rfl rfl
set_option maxRecDepth 100000 in
theorem tw386 : Cond.constant "CutTrees$Parting" 42 (2147483647 : Int32) ∈ gT := gT_at 420 rfl rfl
set_option maxRecDepth 100000 in
theorem tw387 : Cond.methodLink "CutTrees$Parting" 43 yX4_tryFrom ∈ gT := gT_at 421 rfl rfl
set_option maxRecDepth 100000 in
theorem tw388 : Cond.static yX4_tryFrom ∈ gT := gT_at 422 rfl rfl
set_option maxRecDepth 100000 in
theorem tw389 : Cond.code yX4_tryFrom prog_6_method_3_code 8 (Option.none : Option FieldType) ∈ gT := gT_at 423 rfl rfl
set_option maxRecDepth 100000 in
theorem tw390 : Cond.methodLink "CutTrees$Parting" 47 yX4_keepTried ∈ gT := gT_at 424 rfl rfl
set_option maxRecDepth 100000 in
theorem tw392 : Cond.instanceMethod yX4_keepTried ∈ gT := gT_at 426 rfl rfl
set_option maxRecDepth 100000 in
theorem tw393 : Cond.code yX4_keepTried prog_6_method_5_code 3 (Option.none : Option FieldType) ∈ gT := gT_at 427 rfl rfl
set_option maxRecDepth 100000 in
theorem tw394 : Cond.methodLink "CutTrees$Parting" 51 yX4_costToLower ∈ gT := gT_at 428 rfl rfl
set_option maxRecDepth 100000 in
theorem tw396 : Cond.instanceMethod yX4_costToLower ∈ gT := gT_at 430 rfl rfl
set_option maxRecDepth 100000 in
theorem tw397 : Cond.code yX4_costToLower prog_6_method_4_code 4 (Option.some FieldType.int) ∈ gT := gT_at 431 rfl rfl
set_option maxRecDepth 100000 in
theorem tw398 : Cond.methodLink "CutTrees$Parting" 55 yJM_max ∈ gT := gT_at 432 rfl rfl
set_option maxRecDepth 100000 in
theorem tw399 : Cond.methodLink "CutTreesLaw" 77 yX5_partOf ∈ gT := gT_at 433 rfl rfl
set_option maxRecDepth 100000 in
theorem tw400 : Cond.instanceMethod yX5_partOf ∈ gT := gT_at 434 rfl rfl
set_option maxRecDepth 100000 in
theorem tw401 : Cond.selects "CutTrees" yX5_partOf yX5_partOf ∈ gT := gT_at 435 rfl rfl
set_option maxRecDepth 100000 in
theorem tw402 : Cond.code yX5_partOf prog_1_method_17_code 4 (Option.some FieldType.int) ∈ gT := gT_at 436 rfl rfl
set_option maxRecDepth 100000 in
theorem tw403 : Cond.methodLink "CutTreesLaw" 81 yX5_sparsest ∈ gT := gT_at 437 rfl rfl
set_option maxRecDepth 100000 in
theorem tw404 : Cond.instanceMethod yX5_sparsest ∈ gT := gT_at 438 rfl rfl
set_option maxRecDepth 100000 in
theorem tw405 : Cond.selects "CutTrees" yX5_sparsest yX5_sparsest ∈ gT := gT_at 439 rfl rfl
set_option maxRecDepth 100000 in
theorem tw406 : Cond.code yX5_sparsest prog_1_method_19_code 1 (Option.some FieldType.int) ∈ gT := gT_at 440 rfl rfl
set_option maxRecDepth 100000 in
theorem tw407 : Cond.methodLink "CutTrees" 143 yX0_sparsestSide ∈ gT := gT_at 441 rfl rfl
set_option maxRecDepth 100000 in
theorem tw408 : Cond.instanceMethod yX0_sparsestSide ∈ gT := gT_at 442 rfl rfl
set_option maxRecDepth 100000 in
theorem tw409 : Cond.selects "CutTrees$CutTable" yX0_sparsestSide yX0_sparsestSide ∈ gT := gT_at 443 rfl rfl
set_option maxRecDepth 100000 in
theorem tw410 : Cond.code yX0_sparsestSide prog_2_method_10_code 7 (Option.some FieldType.int) ∈ gT := gT_at 444 rfl rfl
set_option maxRecDepth 100000 in
theorem tw411 : Cond.methodLink "CutTrees$CutTable" 65 yX2_spread ∈ gT := gT_at 445 rfl rfl
set_option maxRecDepth 100000 in
theorem tw412 : Cond.instanceMethod yX2_spread ∈ gT := gT_at 446 rfl rfl
set_option maxRecDepth 100000 in
theorem tw413 : Cond.selects "CutTrees$Graph" yX2_spread yX2_spread ∈ gT := gT_at 447 rfl rfl
set_option maxRecDepth 100000 in
theorem tw414 : Cond.code yX2_spread prog_4_method_16_code 3 (Option.some FieldType.int) ∈ gT := gT_at 448 rfl rfl
set_option maxRecDepth 100000 in
theorem tw415 : Cond.methodLink "CutTrees$Graph" 58 yJI_bitCount ∈ gT := gT_at 449 rfl rfl
set_option maxRecDepth 100000 in
theorem tw416 : Cond.static yJI_bitCount ∈ gT := gT_at 450 rfl rfl
set_option maxRecDepth 100000 in
theorem tw417 : Cond.code yJI_bitCount prog_9_method_49_code 1 (Option.some FieldType.int) ∈ gT := gT_at 451 rfl rfl
set_option maxRecDepth 100000 in
theorem tw418 : Cond.constant "java/lang/Integer" 265 (1431655765 : Int32) ∈ gT := gT_at 452 rfl rfl
set_option maxRecDepth 100000 in
theorem tw419 : Cond.constant "java/lang/Integer" 266 (858993459 : Int32) ∈ gT := gT_at 453 rfl rfl
set_option maxRecDepth 100000 in
theorem tw420 : Cond.constant "java/lang/Integer" 267 (252645135 : Int32) ∈ gT := gT_at 454 rfl rfl
set_option maxRecDepth 100000 in
theorem tw421 : Cond.methodLink "CutTreesLaw" 85 yX5_share ∈ gT := gT_at 455 rfl rfl
set_option maxRecDepth 100000 in
theorem tw422 : Cond.instanceMethod yX5_share ∈ gT := gT_at 456 rfl rfl
set_option maxRecDepth 100000 in
theorem tw423 : Cond.selects "CutTrees" yX5_share yX5_share ∈ gT := gT_at 457 rfl rfl
set_option maxRecDepth 100000 in
theorem tw424 : Cond.code yX5_share prog_1_method_20_code 6 (Option.some FieldType.int) ∈ gT := gT_at 458 rfl rfl
set_option maxRecDepth 100000 in
theorem tw425 : Cond.methodLink "CutTrees" 146 yX0_cutAt ∈ gT := gT_at 459 rfl rfl
set_option maxRecDepth 100000 in
theorem tw426 : Cond.methodLink "CutTrees" 149 yX2_spread ∈ gT := gT_at 460 rfl rfl
set_option maxRecDepth 100000 in
theorem tw427 : Cond.methodLink "CutTrees" 152 yX5_greatestDivisor ∈ gT := gT_at 461 rfl rfl
set_option maxRecDepth 100000 in
theorem tw428 : Cond.static yX5_greatestDivisor ∈ gT := gT_at 462 rfl rfl
set_option maxRecDepth 100000 in
theorem tw429 : Cond.code yX5_greatestDivisor prog_1_method_21_code 3 (Option.some FieldType.int) ∈ gT := gT_at 463 rfl rfl
set_option maxRecDepth 100000 in
theorem tw430 : Cond.methodLink "CutTreesLaw" 89 yX5_bars ∈ gT := gT_at 464 rfl rfl
set_option maxRecDepth 100000 in
theorem tw431 : Cond.instanceMethod yX5_bars ∈ gT := gT_at 465 rfl rfl
set_option maxRecDepth 100000 in
theorem tw432 : Cond.selects "CutTrees" yX5_bars yX5_bars ∈ gT := gT_at 466 rfl rfl
set_option maxRecDepth 100000 in
theorem tw433 : Cond.code yX5_bars prog_1_method_22_code 4 (Option.some FieldType.int) ∈ gT := gT_at 467 rfl rfl
set_option maxRecDepth 100000 in
theorem tw434 : Cond.methodLink "CutTrees" 155 yX5_barSet ∈ gT := gT_at 468 rfl rfl
set_option maxRecDepth 100000 in
theorem tw435 : Cond.instanceMethod yX5_barSet ∈ gT := gT_at 469 rfl rfl
set_option maxRecDepth 100000 in
theorem tw436 : Cond.selects "CutTrees" yX5_barSet yX5_barSet ∈ gT := gT_at 470 rfl rfl
set_option maxRecDepth 100000 in
theorem tw437 : Cond.code yX5_barSet prog_1_method_23_code 3 (Option.some FieldType.int) ∈ gT := gT_at 471 rfl rfl
set_option maxRecDepth 100000 in
theorem tw438 : Cond.methodLink "CutTrees" 163 yX2_areJoined ∈ gT := gT_at 472 rfl rfl
set_option maxRecDepth 100000 in
theorem tw439 : Cond.methodLink "CutTrees" 166 yX2_fewestBars ∈ gT := gT_at 473 rfl rfl
set_option maxRecDepth 100000 in
theorem tw440 : Cond.instanceMethod yX2_fewestBars ∈ gT := gT_at 474 rfl rfl
set_option maxRecDepth 100000 in
theorem tw441 : Cond.selects "CutTrees$Graph" yX2_fewestBars yX2_fewestBars ∈ gT := gT_at 475 rfl rfl
set_option maxRecDepth 100000 in
theorem tw442 : Cond.code yX2_fewestBars prog_4_method_19_code 10 (Option.some FieldType.int) ∈ gT := gT_at 476 rfl rfl
set_option maxRecDepth 100000 in
theorem tw443 : Cond.methodLink "CutTrees$Graph" 64 yX2_reachedFrom ∈ gT := gT_at 477 rfl rfl
set_option maxRecDepth 100000 in
theorem tw445 : Cond.instanceMethod yX2_reachedFrom ∈ gT := gT_at 479 rfl rfl
set_option maxRecDepth 100000 in
theorem tw446 : Cond.code yX2_reachedFrom prog_4_method_17_code 7 (Option.some FieldType.int) ∈ gT := gT_at 480 rfl rfl
set_option maxRecDepth 100000 in
theorem tw448 : Cond.methodLink "CutTrees" 158 yJI_bitCount ∈ gT := gT_at 482 rfl rfl
set_option maxRecDepth 100000 in
theorem tw449 : Cond.methodLink "CutTreesLaw" 93 yX5_barSet ∈ gT := gT_at 483 rfl rfl
set_option maxRecDepth 100000 in
theorem tw450 : Cond.methodLink "CutTreesLaw" 97 yX5_without ∈ gT := gT_at 484 rfl rfl
set_option maxRecDepth 100000 in
theorem tw451 : Cond.instanceMethod yX5_without ∈ gT := gT_at 485 rfl rfl
set_option maxRecDepth 100000 in
theorem tw452 : Cond.selects "CutTrees" yX5_without yX5_without ∈ gT := gT_at 486 rfl rfl
set_option maxRecDepth 100000 in
theorem tw453 : Cond.code yX5_without prog_1_method_24_code 2 (Option.some FieldType.int) ∈ gT := gT_at 487 rfl rfl
set_option maxRecDepth 100000 in
theorem tw454 : Cond.methodLink "CutTrees" 169 yX2_allNodes ∈ gT := gT_at 488 rfl rfl
set_option maxRecDepth 100000 in
theorem tw455 : Cond.methodLink "CutTrees" 172 yX2_countConnected ∈ gT := gT_at 489 rfl rfl
set_option maxRecDepth 100000 in
theorem tw456 : Cond.instanceMethod yX2_countConnected ∈ gT := gT_at 490 rfl rfl
set_option maxRecDepth 100000 in
theorem tw457 : Cond.selects "CutTrees$Graph" yX2_countConnected yX2_countConnected ∈ gT := gT_at 491 rfl rfl
set_option maxRecDepth 100000 in
theorem tw458 : Cond.code yX2_countConnected prog_4_method_18_code 5 (Option.some FieldType.int) ∈ gT := gT_at 492 rfl rfl
set_option maxRecDepth 100000 in
theorem tw459 : Cond.classLink "CutTreesLaw" 10 "CutTreesModel" ∈ gT := gT_at 493 rfl rfl
set_option maxRecDepth 100000 in
theorem tw460 : Cond.instantiable "CutTreesModel" 20 ∈ gT := gT_at 494 rfl rfl
set_option maxRecDepth 100000 in
theorem tw461 : Cond.methodLink "CutTreesLaw" 12 yX6_init ∈ gT := gT_at 495 rfl rfl
set_option maxRecDepth 100000 in
theorem tw462 : Cond.instanceMethod yX6_init ∈ gT := gT_at 496 rfl rfl
set_option maxRecDepth 100000 in
theorem tw463 : Cond.code yX6_init prog_8_method_1_code 1 (Option.none : Option FieldType) ∈ gT := gT_at 497 rfl rfl
set_option maxRecDepth 100000 in
theorem tw464 : Cond.methodLink "CutTreesModel" 1 objectInit ∈ gT := gT_at 498 rfl rfl
set_option maxRecDepth 100000 in
theorem tw465 : Cond.fieldLink "CutTreesModel" 60 "CutTreesModel" "nodes" "I" ∈ gT := gT_at 499 rfl rfl
set_option maxRecDepth 100000 in
theorem tw466 : Cond.fieldLink "CutTreesModel" 71 "CutTreesModel" "arcs" "I" ∈ gT := gT_at 500 rfl rfl
set_option maxRecDepth 100000 in
theorem tw467 : Cond.fieldLink "CutTreesModel" 74 "CutTreesModel" "left" "I" ∈ gT := gT_at 501 rfl rfl
set_option maxRecDepth 100000 in
theorem tw468 : Cond.fieldLink "CutTreesModel" 7 "CutTreesModel" "ones" "[I" ∈ gT := gT_at 502 rfl rfl
set_option maxRecDepth 100000 in
theorem tw469 : Cond.fieldLink "CutTreesModel" 13 "CutTreesModel" "others" "[I" ∈ gT := gT_at 503 rfl rfl
set_option maxRecDepth 100000 in
theorem tw470 : Cond.fieldLink "CutTreesModel" 16 "CutTreesModel" "weights" "[I" ∈ gT := gT_at 504 rfl rfl
set_option maxRecDepth 100000 in
theorem tw471 : Cond.fieldLink "CutTreesModel" 19 "CutTreesModel" "there" "[Z" ∈ gT := gT_at 505 rfl rfl
set_option maxRecDepth 100000 in
theorem tw472 : Cond.fieldLink "CutTreesModel" 23 "CutTreesModel" "between" "[I" ∈ gT := gT_at 506 rfl rfl
set_option maxRecDepth 100000 in
theorem tw473 : Cond.fieldLink "CutTreesModel" 26 "CutTreesModel" "near" "[I" ∈ gT := gT_at 507 rfl rfl
set_option maxRecDepth 100000 in
theorem tw474 : Cond.fieldLink "CutTreesModel" 29 "CutTreesModel" "cuts" "[I" ∈ gT := gT_at 508 rfl rfl
set_option maxRecDepth 100000 in
theorem tw475 : Cond.fieldLink "CutTreesModel" 56 "CutTreesModel" "isNew" "Z" ∈ gT := gT_at 509 rfl rfl
set_option maxRecDepth 100000 in
theorem tw476 : Cond.fieldLink "CutTreesModel" 32 "CutTreesModel" "parents" "[I" ∈ gT := gT_at 510 rfl rfl
set_option maxRecDepth 100000 in
theorem tw477 : Cond.fieldLink "CutTreesModel" 35 "CutTreesModel" "branches" "[I" ∈ gT := gT_at 511 rfl rfl
set_option maxRecDepth 100000 in
theorem tw478 : Cond.fieldLink "CutTreesModel" 38 "CutTreesModel" "partCost" "[I" ∈ gT := gT_at 512 rfl rfl
set_option maxRecDepth 100000 in
theorem tw479 : Cond.fieldLink "CutTreesModel" 41 "CutTreesModel" "arePartsNew" "[Z" ∈ gT := gT_at 513 rfl rfl
set_option maxRecDepth 100000 in
theorem tw480 : Cond.fieldLink "CutTreesModel" 44 "CutTreesModel" "partNumbers" "[I" ∈ gT := gT_at 514 rfl rfl
set_option maxRecDepth 100000 in
theorem tw481 : Cond.fieldLink "CutTreesModel" 87 "CutTreesModel" "least" "I" ∈ gT := gT_at 515 rfl rfl
set_option maxRecDepth 100000 in
theorem tw482 : Cond.fieldLink "CutTreesModel" 47 "CutTreesModel" "groups" "[I" ∈ gT := gT_at 516 rfl rfl
set_option maxRecDepth 100000 in
theorem tw483 : Cond.fieldLink "CutTreesModel" 50 "CutTreesModel" "trial" "[I" ∈ gT := gT_at 517 rfl rfl
set_option maxRecDepth 100000 in
theorem tw484 : Cond.fieldLink "CutTreesModel" 53 "CutTreesModel" "costs" "[I" ∈ gT := gT_at 518 rfl rfl
set_option maxRecDepth 100000 in
theorem tw526 : Cond.arrayClass FieldType.boolean ∈ gT := gT_at 560 rfl rfl
set_option maxRecDepth 100000 in
theorem tw527 : Cond.methodLink "CutTreesLaw" 17 yX6_node ∈ gT := gT_at 561 rfl rfl
set_option maxRecDepth 100000 in
theorem tw528 : Cond.instanceMethod yX6_node ∈ gT := gT_at 562 rfl rfl
set_option maxRecDepth 100000 in
theorem tw529 : Cond.selects "CutTreesModel" yX6_node yX6_node ∈ gT := gT_at 563 rfl rfl
set_option maxRecDepth 100000 in
theorem tw530 : Cond.code yX6_node prog_8_method_3_code 1 (Option.some FieldType.int) ∈ gT := gT_at 564 rfl rfl
set_option maxRecDepth 100000 in
theorem tw531 : Cond.methodLink "CutTreesModel" 64 yX6_changed ∈ gT := gT_at 565 rfl rfl
set_option maxRecDepth 100000 in
theorem tw533 : Cond.instanceMethod yX6_changed ∈ gT := gT_at 567 rfl rfl
set_option maxRecDepth 100000 in
theorem tw534 : Cond.code yX6_changed prog_8_method_2_code 2 (Option.none : Option FieldType) ∈ gT := gT_at 568 rfl rfl
set_option maxRecDepth 100000 in
theorem tw535 : Cond.methodLink "CutTreesLaw" 22 yX6_arc ∈ gT := gT_at 569 rfl rfl
set_option maxRecDepth 100000 in
theorem tw536 : Cond.instanceMethod yX6_arc ∈ gT := gT_at 570 rfl rfl
set_option maxRecDepth 100000 in
theorem tw537 : Cond.selects "CutTreesModel" yX6_arc yX6_arc ∈ gT := gT_at 571 rfl rfl
set_option maxRecDepth 100000 in
theorem tw538 : Cond.code yX6_arc prog_8_method_5_code 4 (Option.some FieldType.int) ∈ gT := gT_at 572 rfl rfl
set_option maxRecDepth 100000 in
theorem tw539 : Cond.methodLink "CutTreesModel" 67 yX6_areTwo ∈ gT := gT_at 573 rfl rfl
set_option maxRecDepth 100000 in
theorem tw541 : Cond.instanceMethod yX6_areTwo ∈ gT := gT_at 575 rfl rfl
set_option maxRecDepth 100000 in
theorem tw542 : Cond.code yX6_areTwo prog_8_method_4_code 3 (Option.some FieldType.boolean) ∈ gT := gT_at 576 rfl rfl
set_option maxRecDepth 100000 in
theorem tw543 : Cond.methodLink "CutTreesLaw" 27 yX6_drop ∈ gT := gT_at 577 rfl rfl
set_option maxRecDepth 100000 in
theorem tw544 : Cond.instanceMethod yX6_drop ∈ gT := gT_at 578 rfl rfl
set_option maxRecDepth 100000 in
theorem tw545 : Cond.selects "CutTreesModel" yX6_drop yX6_drop ∈ gT := gT_at 579 rfl rfl
set_option maxRecDepth 100000 in
theorem tw546 : Cond.code yX6_drop prog_8_method_6_code 2 (Option.some FieldType.int) ∈ gT := gT_at 580 rfl rfl
set_option maxRecDepth 100000 in
theorem tw547 : Cond.methodLink "CutTreesLaw" 31 yX6_clear ∈ gT := gT_at 581 rfl rfl
set_option maxRecDepth 100000 in
theorem tw548 : Cond.instanceMethod yX6_clear ∈ gT := gT_at 582 rfl rfl
set_option maxRecDepth 100000 in
theorem tw549 : Cond.selects "CutTreesModel" yX6_clear yX6_clear ∈ gT := gT_at 583 rfl rfl
set_option maxRecDepth 100000 in
theorem tw550 : Cond.code yX6_clear prog_8_method_7_code 2 (Option.some FieldType.int) ∈ gT := gT_at 584 rfl rfl
set_option maxRecDepth 100000 in
theorem tw551 : Cond.methodLink "CutTreesLaw" 35 yX6_cut ∈ gT := gT_at 585 rfl rfl
set_option maxRecDepth 100000 in
theorem tw552 : Cond.instanceMethod yX6_cut ∈ gT := gT_at 586 rfl rfl
set_option maxRecDepth 100000 in
theorem tw553 : Cond.selects "CutTreesModel" yX6_cut yX6_cut ∈ gT := gT_at 587 rfl rfl
set_option maxRecDepth 100000 in
theorem tw554 : Cond.code yX6_cut prog_8_method_10_code 2 (Option.some FieldType.int) ∈ gT := gT_at 588 rfl rfl
set_option maxRecDepth 100000 in
theorem tw555 : Cond.methodLink "CutTreesModel" 77 yX6_all ∈ gT := gT_at 589 rfl rfl
set_option maxRecDepth 100000 in
theorem tw557 : Cond.instanceMethod yX6_all ∈ gT := gT_at 591 rfl rfl
set_option maxRecDepth 100000 in
theorem tw558 : Cond.code yX6_all prog_8_method_8_code 1 (Option.some FieldType.int) ∈ gT := gT_at 592 rfl rfl
set_option maxRecDepth 100000 in
theorem tw559 : Cond.methodLink "CutTreesModel" 84 yX6_make ∈ gT := gT_at 593 rfl rfl
set_option maxRecDepth 100000 in
theorem tw561 : Cond.instanceMethod yX6_make ∈ gT := gT_at 595 rfl rfl
set_option maxRecDepth 100000 in
theorem tw562 : Cond.code yX6_make prog_8_method_9_code 6 (Option.none : Option FieldType) ∈ gT := gT_at 596 rfl rfl
set_option maxRecDepth 100000 in
theorem tw563 : Cond.methodLink "CutTreesModel" 81 yX6_tree ∈ gT := gT_at 597 rfl rfl
set_option maxRecDepth 100000 in
theorem tw565 : Cond.instanceMethod yX6_tree ∈ gT := gT_at 599 rfl rfl
set_option maxRecDepth 100000 in
theorem tw566 : Cond.code yX6_tree prog_8_method_12_code 5 (Option.none : Option FieldType) ∈ gT := gT_at 600 rfl rfl
set_option maxRecDepth 100000 in
theorem tw567 : Cond.methodLink "CutTreesModel" 90 yX6_sideOf ∈ gT := gT_at 601 rfl rfl
set_option maxRecDepth 100000 in
theorem tw569 : Cond.instanceMethod yX6_sideOf ∈ gT := gT_at 603 rfl rfl
set_option maxRecDepth 100000 in
theorem tw570 : Cond.code yX6_sideOf prog_8_method_11_code 5 (Option.some FieldType.int) ∈ gT := gT_at 604 rfl rfl
set_option maxRecDepth 100000 in
theorem tw571 : Cond.methodLink "CutTreesLaw" 40 yX6_pair ∈ gT := gT_at 605 rfl rfl
set_option maxRecDepth 100000 in
theorem tw572 : Cond.instanceMethod yX6_pair ∈ gT := gT_at 606 rfl rfl
set_option maxRecDepth 100000 in
theorem tw573 : Cond.selects "CutTreesModel" yX6_pair yX6_pair ∈ gT := gT_at 607 rfl rfl
set_option maxRecDepth 100000 in
theorem tw574 : Cond.code yX6_pair prog_8_method_13_code 4 (Option.some FieldType.int) ∈ gT := gT_at 608 rfl rfl
set_option maxRecDepth 100000 in
theorem tw575 : Cond.methodLink "CutTreesLaw" 44 yX6_side ∈ gT := gT_at 609 rfl rfl
set_option maxRecDepth 100000 in
theorem tw576 : Cond.instanceMethod yX6_side ∈ gT := gT_at 610 rfl rfl
set_option maxRecDepth 100000 in
theorem tw577 : Cond.selects "CutTreesModel" yX6_side yX6_side ∈ gT := gT_at 611 rfl rfl
set_option maxRecDepth 100000 in
theorem tw578 : Cond.code yX6_side prog_8_method_14_code 3 (Option.some FieldType.int) ∈ gT := gT_at 612 rfl rfl
set_option maxRecDepth 100000 in
theorem tw579 : Cond.methodLink "CutTreesLaw" 48 yX6_parent ∈ gT := gT_at 613 rfl rfl
set_option maxRecDepth 100000 in
theorem tw580 : Cond.instanceMethod yX6_parent ∈ gT := gT_at 614 rfl rfl
set_option maxRecDepth 100000 in
theorem tw581 : Cond.selects "CutTreesModel" yX6_parent yX6_parent ∈ gT := gT_at 615 rfl rfl
set_option maxRecDepth 100000 in
theorem tw582 : Cond.code yX6_parent prog_8_method_16_code 2 (Option.some FieldType.int) ∈ gT := gT_at 616 rfl rfl
set_option maxRecDepth 100000 in
theorem tw583 : Cond.methodLink "CutTreesModel" 94 yX6_ofNode ∈ gT := gT_at 617 rfl rfl
set_option maxRecDepth 100000 in
theorem tw585 : Cond.instanceMethod yX6_ofNode ∈ gT := gT_at 619 rfl rfl
set_option maxRecDepth 100000 in
theorem tw586 : Cond.code yX6_ofNode prog_8_method_15_code 3 (Option.some FieldType.int) ∈ gT := gT_at 620 rfl rfl
set_option maxRecDepth 100000 in
theorem tw587 : Cond.methodLink "CutTreesLaw" 52 yX6_branch ∈ gT := gT_at 621 rfl rfl
set_option maxRecDepth 100000 in
theorem tw588 : Cond.instanceMethod yX6_branch ∈ gT := gT_at 622 rfl rfl
set_option maxRecDepth 100000 in
theorem tw589 : Cond.selects "CutTreesModel" yX6_branch yX6_branch ∈ gT := gT_at 623 rfl rfl
set_option maxRecDepth 100000 in
theorem tw590 : Cond.code yX6_branch prog_8_method_17_code 2 (Option.some FieldType.int) ∈ gT := gT_at 624 rfl rfl
set_option maxRecDepth 100000 in
theorem tw591 : Cond.methodLink "CutTreesLaw" 56 yX6_way ∈ gT := gT_at 625 rfl rfl
set_option maxRecDepth 100000 in
theorem tw592 : Cond.instanceMethod yX6_way ∈ gT := gT_at 626 rfl rfl
set_option maxRecDepth 100000 in
theorem tw593 : Cond.selects "CutTreesModel" yX6_way yX6_way ∈ gT := gT_at 627 rfl rfl
set_option maxRecDepth 100000 in
theorem tw594 : Cond.code yX6_way prog_8_method_19_code 6 (Option.some FieldType.int) ∈ gT := gT_at 628 rfl rfl
set_option maxRecDepth 100000 in
theorem tw595 : Cond.methodLink "CutTreesModel" 98 yX6_up ∈ gT := gT_at 629 rfl rfl
set_option maxRecDepth 100000 in
theorem tw597 : Cond.instanceMethod yX6_up ∈ gT := gT_at 631 rfl rfl
set_option maxRecDepth 100000 in
theorem tw598 : Cond.code yX6_up prog_8_method_18_code 4 (Option.some FieldType.int) ∈ gT := gT_at 632 rfl rfl
set_option maxRecDepth 100000 in
theorem tw599 : Cond.constant "CutTreesModel" 102 (1073741824 : Int32) ∈ gT := gT_at 633 rfl rfl
set_option maxRecDepth 100000 in
theorem tw600 : Cond.methodLink "CutTreesLaw" 60 yX6_least ∈ gT := gT_at 634 rfl rfl
set_option maxRecDepth 100000 in
theorem tw601 : Cond.instanceMethod yX6_least ∈ gT := gT_at 635 rfl rfl
set_option maxRecDepth 100000 in
theorem tw602 : Cond.selects "CutTreesModel" yX6_least yX6_least ∈ gT := gT_at 636 rfl rfl
set_option maxRecDepth 100000 in
theorem tw603 : Cond.code yX6_least prog_8_method_21_code 1 (Option.some FieldType.int) ∈ gT := gT_at 637 rfl rfl
set_option maxRecDepth 100000 in
theorem tw604 : Cond.methodLink "CutTreesModel" 103 yX6_leastCut ∈ gT := gT_at 638 rfl rfl
set_option maxRecDepth 100000 in
theorem tw606 : Cond.instanceMethod yX6_leastCut ∈ gT := gT_at 640 rfl rfl
set_option maxRecDepth 100000 in
theorem tw607 : Cond.code yX6_leastCut prog_8_method_20_code 3 (Option.some FieldType.int) ∈ gT := gT_at 641 rfl rfl
set_option maxRecDepth 100000 in
theorem tw608 : Cond.methodLink "CutTreesLaw" 64 yX6_counted ∈ gT := gT_at 642 rfl rfl
set_option maxRecDepth 100000 in
theorem tw609 : Cond.instanceMethod yX6_counted ∈ gT := gT_at 643 rfl rfl
set_option maxRecDepth 100000 in
theorem tw610 : Cond.selects "CutTreesModel" yX6_counted yX6_counted ∈ gT := gT_at 644 rfl rfl
set_option maxRecDepth 100000 in
theorem tw611 : Cond.code yX6_counted prog_8_method_23_code 1 (Option.some FieldType.int) ∈ gT := gT_at 645 rfl rfl
set_option maxRecDepth 100000 in
theorem tw612 : Cond.methodLink "CutTreesModel" 106 yX6_leastOne ∈ gT := gT_at 646 rfl rfl
set_option maxRecDepth 100000 in
theorem tw614 : Cond.instanceMethod yX6_leastOne ∈ gT := gT_at 648 rfl rfl
set_option maxRecDepth 100000 in
theorem tw615 : Cond.code yX6_leastOne prog_8_method_22_code 5 (Option.some FieldType.int) ∈ gT := gT_at 649 rfl rfl
set_option maxRecDepth 100000 in
theorem tw616 : Cond.methodLink "CutTreesLaw" 68 yX6_every ∈ gT := gT_at 650 rfl rfl
set_option maxRecDepth 100000 in
theorem tw617 : Cond.instanceMethod yX6_every ∈ gT := gT_at 651 rfl rfl
set_option maxRecDepth 100000 in
theorem tw618 : Cond.selects "CutTreesModel" yX6_every yX6_every ∈ gT := gT_at 652 rfl rfl
set_option maxRecDepth 100000 in
theorem tw619 : Cond.code yX6_every prog_8_method_24_code 2 (Option.some FieldType.int) ∈ gT := gT_at 653 rfl rfl
set_option maxRecDepth 100000 in
theorem tw620 : Cond.methodLink "CutTreesLaw" 72 yX6_drawn ∈ gT := gT_at 654 rfl rfl
set_option maxRecDepth 100000 in
theorem tw621 : Cond.instanceMethod yX6_drawn ∈ gT := gT_at 655 rfl rfl
set_option maxRecDepth 100000 in
theorem tw622 : Cond.selects "CutTreesModel" yX6_drawn yX6_drawn ∈ gT := gT_at 656 rfl rfl
set_option maxRecDepth 100000 in
theorem tw623 : Cond.code yX6_drawn prog_8_method_25_code 11 (Option.some FieldType.int) ∈ gT := gT_at 657 rfl rfl
set_option maxRecDepth 100000 in
theorem tw624 : Cond.methodLink "CutTreesModel" 109 yX6_loose ∈ gT := gT_at 658 rfl rfl
set_option maxRecDepth 100000 in
theorem tw626 : Cond.instanceMethod yX6_loose ∈ gT := gT_at 660 rfl rfl
set_option maxRecDepth 100000 in
theorem tw627 : Cond.code yX6_loose prog_8_method_27_code 3 (Option.some FieldType.int) ∈ gT := gT_at 661 rfl rfl
set_option maxRecDepth 100000 in
theorem tw628 : Cond.methodLink "CutTreesModel" 114 yX6_isLoose ∈ gT := gT_at 662 rfl rfl
set_option maxRecDepth 100000 in
theorem tw630 : Cond.instanceMethod yX6_isLoose ∈ gT := gT_at 664 rfl rfl
set_option maxRecDepth 100000 in
theorem tw631 : Cond.code yX6_isLoose prog_8_method_26_code 2 (Option.some FieldType.boolean) ∈ gT := gT_at 665 rfl rfl
set_option maxRecDepth 100000 in
theorem tw632 : Cond.constant "CutTreesModel" 112 (1664525 : Int32) ∈ gT := gT_at 666 rfl rfl
set_option maxRecDepth 100000 in
theorem tw633 : Cond.constant "CutTreesModel" 113 (1013904223 : Int32) ∈ gT := gT_at 667 rfl rfl
set_option maxRecDepth 100000 in
theorem tw634 : Cond.methodLink "CutTreesLaw" 76 yX6_parts ∈ gT := gT_at 668 rfl rfl
set_option maxRecDepth 100000 in
theorem tw635 : Cond.instanceMethod yX6_parts ∈ gT := gT_at 669 rfl rfl
set_option maxRecDepth 100000 in
theorem tw636 : Cond.selects "CutTreesModel" yX6_parts yX6_parts ∈ gT := gT_at 670 rfl rfl
set_option maxRecDepth 100000 in
theorem tw637 : Cond.code yX6_parts prog_8_method_31_code 3 (Option.some FieldType.int) ∈ gT := gT_at 671 rfl rfl
set_option maxRecDepth 100000 in
theorem tw638 : Cond.methodLink "CutTreesModel" 121 yX6_partFault ∈ gT := gT_at 672 rfl rfl
set_option maxRecDepth 100000 in
theorem tw640 : Cond.instanceMethod yX6_partFault ∈ gT := gT_at 674 rfl rfl
set_option maxRecDepth 100000 in
theorem tw641 : Cond.code yX6_partFault prog_8_method_28_code 2 (Option.some FieldType.int) ∈ gT := gT_at 675 rfl rfl
set_option maxRecDepth 100000 in
theorem tw642 : Cond.methodLink "CutTreesModel" 124 yX6_findParts ∈ gT := gT_at 676 rfl rfl
set_option maxRecDepth 100000 in
theorem tw644 : Cond.instanceMethod yX6_findParts ∈ gT := gT_at 678 rfl rfl
set_option maxRecDepth 100000 in
theorem tw645 : Cond.code yX6_findParts prog_8_method_29_code 6 (Option.none : Option FieldType) ∈ gT := gT_at 679 rfl rfl
set_option maxRecDepth 100000 in
theorem tw646 : Cond.methodLink "CutTreesModel" 118 yX6_isFull ∈ gT := gT_at 680 rfl rfl
set_option maxRecDepth 100000 in
theorem tw648 : Cond.instanceMethod yX6_isFull ∈ gT := gT_at 682 rfl rfl
set_option maxRecDepth 100000 in
theorem tw649 : Cond.code yX6_isFull prog_8_method_30_code 4 (Option.some FieldType.boolean) ∈ gT := gT_at 683 rfl rfl
set_option maxRecDepth 100000 in
theorem tw650 : Cond.methodLink "CutTreesLaw" 80 yX6_partOf ∈ gT := gT_at 684 rfl rfl
set_option maxRecDepth 100000 in
theorem tw651 : Cond.instanceMethod yX6_partOf ∈ gT := gT_at 685 rfl rfl
set_option maxRecDepth 100000 in
theorem tw652 : Cond.selects "CutTreesModel" yX6_partOf yX6_partOf ∈ gT := gT_at 686 rfl rfl
set_option maxRecDepth 100000 in
theorem tw653 : Cond.code yX6_partOf prog_8_method_32_code 4 (Option.some FieldType.int) ∈ gT := gT_at 687 rfl rfl
set_option maxRecDepth 100000 in
theorem tw654 : Cond.methodLink "CutTreesLaw" 84 yX6_sparsest ∈ gT := gT_at 688 rfl rfl
set_option maxRecDepth 100000 in
theorem tw655 : Cond.instanceMethod yX6_sparsest ∈ gT := gT_at 689 rfl rfl
set_option maxRecDepth 100000 in
theorem tw656 : Cond.selects "CutTreesModel" yX6_sparsest yX6_sparsest ∈ gT := gT_at 690 rfl rfl
set_option maxRecDepth 100000 in
theorem tw657 : Cond.code yX6_sparsest prog_8_method_36_code 1 (Option.some FieldType.int) ∈ gT := gT_at 691 rfl rfl
set_option maxRecDepth 100000 in
theorem tw658 : Cond.methodLink "CutTreesModel" 134 yX6_sparsestOf ∈ gT := gT_at 692 rfl rfl
set_option maxRecDepth 100000 in
theorem tw660 : Cond.instanceMethod yX6_sparsestOf ∈ gT := gT_at 694 rfl rfl
set_option maxRecDepth 100000 in
theorem tw661 : Cond.code yX6_sparsestOf prog_8_method_35_code 3 (Option.some FieldType.int) ∈ gT := gT_at 695 rfl rfl
set_option maxRecDepth 100000 in
theorem tw662 : Cond.methodLink "CutTreesModel" 131 yX6_below ∈ gT := gT_at 696 rfl rfl
set_option maxRecDepth 100000 in
theorem tw664 : Cond.instanceMethod yX6_below ∈ gT := gT_at 698 rfl rfl
set_option maxRecDepth 100000 in
theorem tw665 : Cond.code yX6_below prog_8_method_34_code 2 (Option.some FieldType.int) ∈ gT := gT_at 699 rfl rfl
set_option maxRecDepth 100000 in
theorem tw666 : Cond.methodLink "CutTreesModel" 128 yX6_count ∈ gT := gT_at 700 rfl rfl
set_option maxRecDepth 100000 in
theorem tw667 : Cond.static yX6_count ∈ gT := gT_at 701 rfl rfl
set_option maxRecDepth 100000 in
theorem tw668 : Cond.code yX6_count prog_8_method_33_code 3 (Option.some FieldType.int) ∈ gT := gT_at 702 rfl rfl
set_option maxRecDepth 100000 in
theorem tw669 : Cond.methodLink "CutTreesLaw" 88 yX6_share ∈ gT := gT_at 703 rfl rfl
set_option maxRecDepth 100000 in
theorem tw670 : Cond.instanceMethod yX6_share ∈ gT := gT_at 704 rfl rfl
set_option maxRecDepth 100000 in
theorem tw671 : Cond.selects "CutTreesModel" yX6_share yX6_share ∈ gT := gT_at 705 rfl rfl
set_option maxRecDepth 100000 in
theorem tw672 : Cond.code yX6_share prog_8_method_37_code 8 (Option.some FieldType.int) ∈ gT := gT_at 706 rfl rfl
set_option maxRecDepth 100000 in
theorem tw673 : Cond.methodLink "CutTreesLaw" 92 yX6_bars ∈ gT := gT_at 707 rfl rfl
set_option maxRecDepth 100000 in
theorem tw674 : Cond.instanceMethod yX6_bars ∈ gT := gT_at 708 rfl rfl
set_option maxRecDepth 100000 in
theorem tw675 : Cond.selects "CutTreesModel" yX6_bars yX6_bars ∈ gT := gT_at 709 rfl rfl
set_option maxRecDepth 100000 in
theorem tw676 : Cond.code yX6_bars prog_8_method_41_code 4 (Option.some FieldType.int) ∈ gT := gT_at 710 rfl rfl
set_option maxRecDepth 100000 in
theorem tw677 : Cond.methodLink "CutTreesModel" 140 yX6_barFault ∈ gT := gT_at 711 rfl rfl
set_option maxRecDepth 100000 in
theorem tw679 : Cond.instanceMethod yX6_barFault ∈ gT := gT_at 713 rfl rfl
set_option maxRecDepth 100000 in
theorem tw680 : Cond.code yX6_barFault prog_8_method_40_code 3 (Option.some FieldType.int) ∈ gT := gT_at 714 rfl rfl
set_option maxRecDepth 100000 in
theorem tw681 : Cond.methodLink "CutTreesModel" 143 yX6_barsOf ∈ gT := gT_at 715 rfl rfl
set_option maxRecDepth 100000 in
theorem tw683 : Cond.instanceMethod yX6_barsOf ∈ gT := gT_at 717 rfl rfl
set_option maxRecDepth 100000 in
theorem tw684 : Cond.code yX6_barsOf prog_8_method_39_code 5 (Option.some FieldType.int) ∈ gT := gT_at 718 rfl rfl
set_option maxRecDepth 100000 in
theorem tw685 : Cond.methodLink "CutTreesModel" 137 yX6_part ∈ gT := gT_at 719 rfl rfl
set_option maxRecDepth 100000 in
theorem tw687 : Cond.instanceMethod yX6_part ∈ gT := gT_at 721 rfl rfl
set_option maxRecDepth 100000 in
theorem tw688 : Cond.code yX6_part prog_8_method_38_code 6 (Option.some FieldType.int) ∈ gT := gT_at 722 rfl rfl
set_option maxRecDepth 100000 in
theorem tw689 : Cond.methodLink "CutTreesLaw" 96 yX6_barSet ∈ gT := gT_at 723 rfl rfl
set_option maxRecDepth 100000 in
theorem tw690 : Cond.instanceMethod yX6_barSet ∈ gT := gT_at 724 rfl rfl
set_option maxRecDepth 100000 in
theorem tw691 : Cond.selects "CutTreesModel" yX6_barSet yX6_barSet ∈ gT := gT_at 725 rfl rfl
set_option maxRecDepth 100000 in
theorem tw692 : Cond.code yX6_barSet prog_8_method_42_code 4 (Option.some FieldType.int) ∈ gT := gT_at 726 rfl rfl
set_option maxRecDepth 100000 in
theorem tw693 : Cond.methodLink "CutTreesLaw" 100 yX6_without ∈ gT := gT_at 727 rfl rfl
set_option maxRecDepth 100000 in
theorem tw694 : Cond.instanceMethod yX6_without ∈ gT := gT_at 728 rfl rfl
set_option maxRecDepth 100000 in
theorem tw695 : Cond.selects "CutTreesModel" yX6_without yX6_without ∈ gT := gT_at 729 rfl rfl
set_option maxRecDepth 100000 in
theorem tw696 : Cond.code yX6_without prog_8_method_43_code 5 (Option.some FieldType.int) ∈ gT := gT_at 730 rfl rfl
set_option maxRecDepth 100000 in
theorem ts0 : Cond.selects RX2 yX2_addBetween yX2_addBetween ∈ gT := gT_sel 0 (q := (yX2_addBetween, _)) rfl
set_option maxRecDepth 100000 in
theorem ts1 : Cond.selects RX5 yX5_freshTable yX5_freshTable ∈ gT := gT_sel 1 (q := (yX5_freshTable, _)) rfl
set_option maxRecDepth 100000 in
theorem ts2 : Cond.selects RX0 yX0_fillSetsUpTo yX0_fillSetsUpTo ∈ gT := gT_sel 2 (q := (yX0_fillSetsUpTo, _)) rfl
set_option maxRecDepth 100000 in
theorem ts3 : Cond.selects RX5 yX5_freshTree yX5_freshTree ∈ gT := gT_sel 3 (q := (yX5_freshTree, _)) rfl
set_option maxRecDepth 100000 in
theorem ts4 : Cond.selects RX3 yX3_hang yX3_hang ∈ gT := gT_sel 4 (q := (yX3_hang, _)) rfl
set_option maxRecDepth 100000 in
theorem ts5 : Cond.selects RX1 yX1_weightBetweenGroups yX1_weightBetweenGroups ∈ gT := gT_sel 5 (q := (yX1_weightBetweenGroups, _)) rfl
set_option maxRecDepth 100000 in
theorem ts6 : Cond.selects RX1 yX1_isBetweenGroups yX1_isBetweenGroups ∈ gT := gT_sel 6 (q := (yX1_isBetweenGroups, _)) rfl
set_option maxRecDepth 100000 in
theorem ts7 : Cond.selects RX1 yX1_joinByArcAt yX1_joinByArcAt ∈ gT := gT_sel 7 (q := (yX1_joinByArcAt, _)) rfl
set_option maxRecDepth 100000 in
theorem ts8 : Cond.selects RX1 yX1_joinGroups yX1_joinGroups ∈ gT := gT_sel 8 (q := (yX1_joinGroups, _)) rfl
set_option maxRecDepth 100000 in
theorem ts9 : Cond.selects RX5 yX5_refusalOfParts yX5_refusalOfParts ∈ gT := gT_sel 9 (q := (yX5_refusalOfParts, _)) rfl
set_option maxRecDepth 100000 in
theorem ts10 : Cond.selects RX5 yX5_freshParting yX5_freshParting ∈ gT := gT_sel 10 (q := (yX5_freshParting, _)) rfl
set_option maxRecDepth 100000 in
theorem ts11 : Cond.selects RX4 yX4_keepTried yX4_keepTried ∈ gT := gT_sel 11 (q := (yX4_keepTried, _)) rfl
set_option maxRecDepth 100000 in
theorem ts12 : Cond.selects RX4 yX4_costToLower yX4_costToLower ∈ gT := gT_sel 12 (q := (yX4_costToLower, _)) rfl
set_option maxRecDepth 100000 in
theorem ts13 : Cond.selects RX2 yX2_reachedFrom yX2_reachedFrom ∈ gT := gT_sel 13 (q := (yX2_reachedFrom, _)) rfl
set_option maxRecDepth 100000 in
theorem ts14 : Cond.selects RX6 yX6_changed yX6_changed ∈ gT := gT_sel 14 (q := (yX6_changed, _)) rfl
set_option maxRecDepth 100000 in
theorem ts15 : Cond.selects RX6 yX6_areTwo yX6_areTwo ∈ gT := gT_sel 15 (q := (yX6_areTwo, _)) rfl
set_option maxRecDepth 100000 in
theorem ts16 : Cond.selects RX6 yX6_all yX6_all ∈ gT := gT_sel 16 (q := (yX6_all, _)) rfl
set_option maxRecDepth 100000 in
theorem ts17 : Cond.selects RX6 yX6_make yX6_make ∈ gT := gT_sel 17 (q := (yX6_make, _)) rfl
set_option maxRecDepth 100000 in
theorem ts18 : Cond.selects RX6 yX6_tree yX6_tree ∈ gT := gT_sel 18 (q := (yX6_tree, _)) rfl
set_option maxRecDepth 100000 in
theorem ts19 : Cond.selects RX6 yX6_sideOf yX6_sideOf ∈ gT := gT_sel 19 (q := (yX6_sideOf, _)) rfl
set_option maxRecDepth 100000 in
theorem ts20 : Cond.selects RX6 yX6_ofNode yX6_ofNode ∈ gT := gT_sel 20 (q := (yX6_ofNode, _)) rfl
set_option maxRecDepth 100000 in
theorem ts21 : Cond.selects RX6 yX6_up yX6_up ∈ gT := gT_sel 21 (q := (yX6_up, _)) rfl
set_option maxRecDepth 100000 in
theorem ts22 : Cond.selects RX6 yX6_leastCut yX6_leastCut ∈ gT := gT_sel 22 (q := (yX6_leastCut, _)) rfl
set_option maxRecDepth 100000 in
theorem ts23 : Cond.selects RX6 yX6_leastOne yX6_leastOne ∈ gT := gT_sel 23 (q := (yX6_leastOne, _)) rfl
set_option maxRecDepth 100000 in
theorem ts24 : Cond.selects RX6 yX6_loose yX6_loose ∈ gT := gT_sel 24 (q := (yX6_loose, _)) rfl
set_option maxRecDepth 100000 in
theorem ts25 : Cond.selects RX6 yX6_isLoose yX6_isLoose ∈ gT := gT_sel 25 (q := (yX6_isLoose, _)) rfl
set_option maxRecDepth 100000 in
theorem ts26 : Cond.selects RX6 yX6_partFault yX6_partFault ∈ gT := gT_sel 26 (q := (yX6_partFault, _)) rfl
set_option maxRecDepth 100000 in
theorem ts27 : Cond.selects RX6 yX6_findParts yX6_findParts ∈ gT := gT_sel 27 (q := (yX6_findParts, _)) rfl
set_option maxRecDepth 100000 in
theorem ts28 : Cond.selects RX6 yX6_isFull yX6_isFull ∈ gT := gT_sel 28 (q := (yX6_isFull, _)) rfl
set_option maxRecDepth 100000 in
theorem ts29 : Cond.selects RX6 yX6_sparsestOf yX6_sparsestOf ∈ gT := gT_sel 29 (q := (yX6_sparsestOf, _)) rfl
set_option maxRecDepth 100000 in
theorem ts30 : Cond.selects RX6 yX6_below yX6_below ∈ gT := gT_sel 30 (q := (yX6_below, _)) rfl
set_option maxRecDepth 100000 in
theorem ts31 : Cond.selects RX6 yX6_barFault yX6_barFault ∈ gT := gT_sel 31 (q := (yX6_barFault, _)) rfl
set_option maxRecDepth 100000 in
theorem ts32 : Cond.selects RX6 yX6_barsOf yX6_barsOf ∈ gT := gT_sel 32 (q := (yX6_barsOf, _)) rfl
set_option maxRecDepth 100000 in
theorem ts33 : Cond.selects RX6 yX6_part yX6_part ∈ gT := gT_sel 33 (q := (yX6_part, _)) rfl
set_option maxRecDepth 100000 in
theorem inX0 : ∀ w ∈ u_ws RX0 TX0 3, w ∈ gT := by
  intro w hw
  obtain ⟨k, hk, rfl⟩ := List.mem_map.mp hw
  have hk := List.mem_range.mp hk
  match k, hk with
  | 0, _ => exact gT_at 113 rfl rfl
  | 1, _ => exact gT_at 115 rfl rfl
  | 2, _ => exact gT_at 117 rfl rfl
  | k + 3, hk => exact absurd hk (by omega)
set_option maxRecDepth 100000 in
theorem inX1 : ∀ w ∈ u_ws RX1 TX1 2, w ∈ gT := by
  intro w hw
  obtain ⟨k, hk, rfl⟩ := List.mem_map.mp hw
  have hk := List.mem_range.mp hk
  match k, hk with
  | 0, _ => exact gT_at 152 rfl rfl
  | 1, _ => exact gT_at 154 rfl rfl
  | k + 2, hk => exact absurd hk (by omega)
set_option maxRecDepth 100000 in
theorem inX2 : ∀ w ∈ u_ws RX2 TX2 9, w ∈ gT := by
  intro w hw
  obtain ⟨k, hk, rfl⟩ := List.mem_map.mp hw
  have hk := List.mem_range.mp hk
  match k, hk with
  | 0, _ => exact gT_at 84 rfl rfl
  | 1, _ => exact gT_at 86 rfl rfl
  | 2, _ => exact gT_at 88 rfl rfl
  | 3, _ => exact gT_at 90 rfl rfl
  | 4, _ => exact gT_at 92 rfl rfl
  | 5, _ => exact gT_at 94 rfl rfl
  | 6, _ => exact gT_at 96 rfl rfl
  | 7, _ => exact gT_at 98 rfl rfl
  | 8, _ => exact gT_at 100 rfl rfl
  | k + 9, hk => exact absurd hk (by omega)
set_option maxRecDepth 100000 in
theorem inX3 : ∀ w ∈ u_ws RX3 TX3 5, w ∈ gT := by
  intro w hw
  obtain ⟨k, hk, rfl⟩ := List.mem_map.mp hw
  have hk := List.mem_range.mp hk
  match k, hk with
  | 0, _ => exact gT_at 133 rfl rfl
  | 1, _ => exact gT_at 135 rfl rfl
  | 2, _ => exact gT_at 137 rfl rfl
  | 3, _ => exact gT_at 139 rfl rfl
  | 4, _ => exact gT_at 141 rfl rfl
  | k + 5, hk => exact absurd hk (by omega)
set_option maxRecDepth 100000 in
theorem inX4 : ∀ w ∈ u_ws RX4 TX4 6, w ∈ gT := by
  intro w hw
  obtain ⟨k, hk, rfl⟩ := List.mem_map.mp hw
  have hk := List.mem_range.mp hk
  match k, hk with
  | 0, _ => exact gT_at 172 rfl rfl
  | 1, _ => exact gT_at 174 rfl rfl
  | 2, _ => exact gT_at 176 rfl rfl
  | 3, _ => exact gT_at 178 rfl rfl
  | 4, _ => exact gT_at 180 rfl rfl
  | 5, _ => exact gT_at 182 rfl rfl
  | k + 6, hk => exact absurd hk (by omega)
set_option maxRecDepth 100000 in
theorem inX5 : ∀ w ∈ u_ws RX5 TX5 5, w ∈ gT := by
  intro w hw
  obtain ⟨k, hk, rfl⟩ := List.mem_map.mp hw
  have hk := List.mem_range.mp hk
  match k, hk with
  | 0, _ => exact gT_at 190 rfl rfl
  | 1, _ => exact gT_at 192 rfl rfl
  | 2, _ => exact gT_at 194 rfl rfl
  | 3, _ => exact gT_at 196 rfl rfl
  | 4, _ => exact gT_at 198 rfl rfl
  | k + 5, hk => exact absurd hk (by omega)
set_option maxRecDepth 100000 in
theorem inX6 : ∀ w ∈ u_ws RX6 TX6 20, w ∈ gT := by
  intro w hw
  obtain ⟨k, hk, rfl⟩ := List.mem_map.mp hw
  have hk := List.mem_range.mp hk
  match k, hk with
  | 0, _ => exact gT_at 519 rfl rfl
  | 1, _ => exact gT_at 521 rfl rfl
  | 2, _ => exact gT_at 523 rfl rfl
  | 3, _ => exact gT_at 525 rfl rfl
  | 4, _ => exact gT_at 527 rfl rfl
  | 5, _ => exact gT_at 529 rfl rfl
  | 6, _ => exact gT_at 531 rfl rfl
  | 7, _ => exact gT_at 533 rfl rfl
  | 8, _ => exact gT_at 535 rfl rfl
  | 9, _ => exact gT_at 537 rfl rfl
  | 10, _ => exact gT_at 539 rfl rfl
  | 11, _ => exact gT_at 541 rfl rfl
  | 12, _ => exact gT_at 543 rfl rfl
  | 13, _ => exact gT_at 545 rfl rfl
  | 14, _ => exact gT_at 547 rfl rfl
  | 15, _ => exact gT_at 549 rfl rfl
  | 16, _ => exact gT_at 551 rfl rfl
  | 17, _ => exact gT_at 553 rfl rfl
  | 18, _ => exact gT_at 555 rfl rfl
  | 19, _ => exact gT_at 557 rfl rfl
  | k + 20, hk => exact absurd hk (by omega)
