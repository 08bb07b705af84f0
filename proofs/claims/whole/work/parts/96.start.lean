section LLP
variable {p : Program} {l : Launch} {e : Env} {s : State} {m : MethodId} {below : List Frame} {meth : Method} {c : Code} {b L : Nat} {xs : Nat → Int32} {D : va_G} {dA : Nat → ClassId} {ρ1 ρ2 : Nat → Nat} {nc ns : Nat} {x : Int32}
set_option maxRecDepth 20000 in
theorem LKs_0 (X : LX p s m meth c b L xs D dA ρ1 ρ2 nc ns) {Z : ZS} (kk : LK p l e s m below meth c b D dA ρ1 ρ2 nc ns x 228 [] Z Z) : LK p l e s m below meth c b D dA ρ1 ρ2 nc ns x 33 [.int (nI 0)] Z Z := by
  intro M1 M2 H locs ls hC hM hW hl
  exact lv_tableIn (off := 195) (tgt := 228) X.1.1 X.1.2.1 dL_law_33 (by decide) (by decide) (by decide) (by decide) (kk M1 M2 H locs ls hC hM hW hl)
set_option maxRecDepth 20000 in
theorem LKs_1 (X : LX p s m meth c b L xs D dA ρ1 ρ2 nc ns) {Z : ZS} (kk : LK p l e s m below meth c b D dA ρ1 ρ2 nc ns x 271 [] Z Z) : LK p l e s m below meth c b D dA ρ1 ρ2 nc ns x 33 [.int (nI 1)] Z Z := by
  intro M1 M2 H locs ls hC hM hW hl
  exact lv_tableIn (off := 238) (tgt := 271) X.1.1 X.1.2.1 dL_law_33 (by decide) (by decide) (by decide) (by decide) (kk M1 M2 H locs ls hC hM hW hl)
set_option maxRecDepth 20000 in
theorem LKs_2 (X : LX p s m meth c b L xs D dA ρ1 ρ2 nc ns) {Z : ZS} (kk : LK p l e s m below meth c b D dA ρ1 ρ2 nc ns x 344 [] Z Z) : LK p l e s m below meth c b D dA ρ1 ρ2 nc ns x 33 [.int (nI 2)] Z Z := by
  intro M1 M2 H locs ls hC hM hW hl
  exact lv_tableIn (off := 311) (tgt := 344) X.1.1 X.1.2.1 dL_law_33 (by decide) (by decide) (by decide) (by decide) (kk M1 M2 H locs ls hC hM hW hl)
set_option maxRecDepth 20000 in
theorem LKs_3 (X : LX p s m meth c b L xs D dA ρ1 ρ2 nc ns) {Z : ZS} (kk : LK p l e s m below meth c b D dA ρ1 ρ2 nc ns x 407 [] Z Z) : LK p l e s m below meth c b D dA ρ1 ρ2 nc ns x 33 [.int (nI 3)] Z Z := by
  intro M1 M2 H locs ls hC hM hW hl
  exact lv_tableIn (off := 374) (tgt := 407) X.1.1 X.1.2.1 dL_law_33 (by decide) (by decide) (by decide) (by decide) (kk M1 M2 H locs ls hC hM hW hl)
set_option maxRecDepth 20000 in
theorem LKs_4 (X : LX p s m meth c b L xs D dA ρ1 ρ2 nc ns) {Z : ZS} (kk : LK p l e s m below meth c b D dA ρ1 ρ2 nc ns x 441 [] Z Z) : LK p l e s m below meth c b D dA ρ1 ρ2 nc ns x 33 [.int (nI 4)] Z Z := by
  intro M1 M2 H locs ls hC hM hW hl
  exact lv_tableIn (off := 408) (tgt := 441) X.1.1 X.1.2.1 dL_law_33 (by decide) (by decide) (by decide) (by decide) (kk M1 M2 H locs ls hC hM hW hl)
set_option maxRecDepth 20000 in
theorem LKs_5 (X : LX p s m meth c b L xs D dA ρ1 ρ2 nc ns) {Z : ZS} (kk : LK p l e s m below meth c b D dA ρ1 ρ2 nc ns x 474 [] Z Z) : LK p l e s m below meth c b D dA ρ1 ρ2 nc ns x 33 [.int (nI 5)] Z Z := by
  intro M1 M2 H locs ls hC hM hW hl
  exact lv_tableIn (off := 441) (tgt := 474) X.1.1 X.1.2.1 dL_law_33 (by decide) (by decide) (by decide) (by decide) (kk M1 M2 H locs ls hC hM hW hl)
set_option maxRecDepth 20000 in
theorem LKs_6 (X : LX p s m meth c b L xs D dA ρ1 ρ2 nc ns) {Z : ZS} (kk : LK p l e s m below meth c b D dA ρ1 ρ2 nc ns x 497 [] Z Z) : LK p l e s m below meth c b D dA ρ1 ρ2 nc ns x 33 [.int (nI 6)] Z Z := by
  intro M1 M2 H locs ls hC hM hW hl
  exact lv_tableIn (off := 464) (tgt := 497) X.1.1 X.1.2.1 dL_law_33 (by decide) (by decide) (by decide) (by decide) (kk M1 M2 H locs ls hC hM hW hl)
set_option maxRecDepth 20000 in
theorem LKs_7 (X : LX p s m meth c b L xs D dA ρ1 ρ2 nc ns) {Z : ZS} (kk : LK p l e s m below meth c b D dA ρ1 ρ2 nc ns x 530 [] Z Z) : LK p l e s m below meth c b D dA ρ1 ρ2 nc ns x 33 [.int (nI 7)] Z Z := by
  intro M1 M2 H locs ls hC hM hW hl
  exact lv_tableIn (off := 497) (tgt := 530) X.1.1 X.1.2.1 dL_law_33 (by decide) (by decide) (by decide) (by decide) (kk M1 M2 H locs ls hC hM hW hl)
set_option maxRecDepth 20000 in
theorem LKs_8 (X : LX p s m meth c b L xs D dA ρ1 ρ2 nc ns) {Z : ZS} (kk : LK p l e s m below meth c b D dA ρ1 ρ2 nc ns x 553 [] Z Z) : LK p l e s m below meth c b D dA ρ1 ρ2 nc ns x 33 [.int (nI 8)] Z Z := by
  intro M1 M2 H locs ls hC hM hW hl
  exact lv_tableIn (off := 520) (tgt := 553) X.1.1 X.1.2.1 dL_law_33 (by decide) (by decide) (by decide) (by decide) (kk M1 M2 H locs ls hC hM hW hl)
set_option maxRecDepth 20000 in
theorem LKs_9 (X : LX p s m meth c b L xs D dA ρ1 ρ2 nc ns) {Z : ZS} (kk : LK p l e s m below meth c b D dA ρ1 ρ2 nc ns x 596 [] Z Z) : LK p l e s m below meth c b D dA ρ1 ρ2 nc ns x 33 [.int (nI 9)] Z Z := by
  intro M1 M2 H locs ls hC hM hW hl
  exact lv_tableIn (off := 563) (tgt := 596) X.1.1 X.1.2.1 dL_law_33 (by decide) (by decide) (by decide) (by decide) (kk M1 M2 H locs ls hC hM hW hl)
set_option maxRecDepth 20000 in
theorem LKs_10 (X : LX p s m meth c b L xs D dA ρ1 ρ2 nc ns) {Z : ZS} (kk : LK p l e s m below meth c b D dA ρ1 ρ2 nc ns x 629 [] Z Z) : LK p l e s m below meth c b D dA ρ1 ρ2 nc ns x 33 [.int (nI 10)] Z Z := by
  intro M1 M2 H locs ls hC hM hW hl
  exact lv_tableIn (off := 596) (tgt := 629) X.1.1 X.1.2.1 dL_law_33 (by decide) (by decide) (by decide) (by decide) (kk M1 M2 H locs ls hC hM hW hl)
set_option maxRecDepth 20000 in
theorem LKs_11 (X : LX p s m meth c b L xs D dA ρ1 ρ2 nc ns) {Z : ZS} (kk : LK p l e s m below meth c b D dA ρ1 ρ2 nc ns x 672 [] Z Z) : LK p l e s m below meth c b D dA ρ1 ρ2 nc ns x 33 [.int (nI 11)] Z Z := by
  intro M1 M2 H locs ls hC hM hW hl
  exact lv_tableIn (off := 639) (tgt := 672) X.1.1 X.1.2.1 dL_law_33 (by decide) (by decide) (by decide) (by decide) (kk M1 M2 H locs ls hC hM hW hl)
set_option maxRecDepth 20000 in
theorem LKs_12 (X : LX p s m meth c b L xs D dA ρ1 ρ2 nc ns) {Z : ZS} (kk : LK p l e s m below meth c b D dA ρ1 ρ2 nc ns x 705 [] Z Z) : LK p l e s m below meth c b D dA ρ1 ρ2 nc ns x 33 [.int (nI 12)] Z Z := by
  intro M1 M2 H locs ls hC hM hW hl
  exact lv_tableIn (off := 672) (tgt := 705) X.1.1 X.1.2.1 dL_law_33 (by decide) (by decide) (by decide) (by decide) (kk M1 M2 H locs ls hC hM hW hl)
set_option maxRecDepth 20000 in
theorem LKs_13 (X : LX p s m meth c b L xs D dA ρ1 ρ2 nc ns) {Z : ZS} (kk : LK p l e s m below meth c b D dA ρ1 ρ2 nc ns x 738 [] Z Z) : LK p l e s m below meth c b D dA ρ1 ρ2 nc ns x 33 [.int (nI 13)] Z Z := by
  intro M1 M2 H locs ls hC hM hW hl
  exact lv_tableIn (off := 705) (tgt := 738) X.1.1 X.1.2.1 dL_law_33 (by decide) (by decide) (by decide) (by decide) (kk M1 M2 H locs ls hC hM hW hl)
set_option maxRecDepth 20000 in
theorem LKs_14 (X : LX p s m meth c b L xs D dA ρ1 ρ2 nc ns) {Z : ZS} (kk : LK p l e s m below meth c b D dA ρ1 ρ2 nc ns x 787 [] Z Z) : LK p l e s m below meth c b D dA ρ1 ρ2 nc ns x 33 [.int (nI 14)] Z Z := by
  intro M1 M2 H locs ls hC hM hW hl
  exact lv_tableIn (off := 754) (tgt := 787) X.1.1 X.1.2.1 dL_law_33 (by decide) (by decide) (by decide) (by decide) (kk M1 M2 H locs ls hC hM hW hl)
set_option maxRecDepth 20000 in
theorem LKs_15 (X : LX p s m meth c b L xs D dA ρ1 ρ2 nc ns) {Z : ZS} (kk : LK p l e s m below meth c b D dA ρ1 ρ2 nc ns x 820 [] Z Z) : LK p l e s m below meth c b D dA ρ1 ρ2 nc ns x 33 [.int (nI 15)] Z Z := by
  intro M1 M2 H locs ls hC hM hW hl
  exact lv_tableIn (off := 787) (tgt := 820) X.1.1 X.1.2.1 dL_law_33 (by decide) (by decide) (by decide) (by decide) (kk M1 M2 H locs ls hC hM hW hl)
set_option maxRecDepth 20000 in
theorem LKs_16 (X : LX p s m meth c b L xs D dA ρ1 ρ2 nc ns) {Z : ZS} (kk : LK p l e s m below meth c b D dA ρ1 ρ2 nc ns x 853 [] Z Z) : LK p l e s m below meth c b D dA ρ1 ρ2 nc ns x 33 [.int (nI 16)] Z Z := by
  intro M1 M2 H locs ls hC hM hW hl
  exact lv_tableIn (off := 820) (tgt := 853) X.1.1 X.1.2.1 dL_law_33 (by decide) (by decide) (by decide) (by decide) (kk M1 M2 H locs ls hC hM hW hl)
set_option maxRecDepth 20000 in
theorem LKs_17 (X : LX p s m meth c b L xs D dA ρ1 ρ2 nc ns) {Z : ZS} (kk : LK p l e s m below meth c b D dA ρ1 ρ2 nc ns x 886 [] Z Z) : LK p l e s m below meth c b D dA ρ1 ρ2 nc ns x 33 [.int (nI 17)] Z Z := by
  intro M1 M2 H locs ls hC hM hW hl
  exact lv_tableIn (off := 853) (tgt := 886) X.1.1 X.1.2.1 dL_law_33 (by decide) (by decide) (by decide) (by decide) (kk M1 M2 H locs ls hC hM hW hl)
set_option maxRecDepth 20000 in
theorem LKs_18 (X : LX p s m meth c b L xs D dA ρ1 ρ2 nc ns) {Z : ZS} (kk : LK p l e s m below meth c b D dA ρ1 ρ2 nc ns x 909 [] Z Z) : LK p l e s m below meth c b D dA ρ1 ρ2 nc ns x 33 [.int (nI 18)] Z Z := by
  intro M1 M2 H locs ls hC hM hW hl
  exact lv_tableIn (off := 876) (tgt := 909) X.1.1 X.1.2.1 dL_law_33 (by decide) (by decide) (by decide) (by decide) (kk M1 M2 H locs ls hC hM hW hl)
set_option maxRecDepth 20000 in
theorem LKs_19 (X : LX p s m meth c b L xs D dA ρ1 ρ2 nc ns) {Z : ZS} (kk : LK p l e s m below meth c b D dA ρ1 ρ2 nc ns x 922 [] Z Z) : LK p l e s m below meth c b D dA ρ1 ρ2 nc ns x 33 [.int (nI 19)] Z Z := by
  intro M1 M2 H locs ls hC hM hW hl
  exact lv_tableIn (off := 889) (tgt := 922) X.1.1 X.1.2.1 dL_law_33 (by decide) (by decide) (by decide) (by decide) (kk M1 M2 H locs ls hC hM hW hl)
set_option maxRecDepth 20000 in
theorem LKs_20 (X : LX p s m meth c b L xs D dA ρ1 ρ2 nc ns) {Z : ZS} (kk : LK p l e s m below meth c b D dA ρ1 ρ2 nc ns x 965 [] Z Z) : LK p l e s m below meth c b D dA ρ1 ρ2 nc ns x 33 [.int (nI 20)] Z Z := by
  intro M1 M2 H locs ls hC hM hW hl
  exact lv_tableIn (off := 932) (tgt := 965) X.1.1 X.1.2.1 dL_law_33 (by decide) (by decide) (by decide) (by decide) (kk M1 M2 H locs ls hC hM hW hl)
set_option maxRecDepth 20000 in
theorem LKs_21 (X : LX p s m meth c b L xs D dA ρ1 ρ2 nc ns) {Z : ZS} (kk : LK p l e s m below meth c b D dA ρ1 ρ2 nc ns x 1008 [] Z Z) : LK p l e s m below meth c b D dA ρ1 ρ2 nc ns x 33 [.int (nI 21)] Z Z := by
  intro M1 M2 H locs ls hC hM hW hl
  exact lv_tableIn (off := 975) (tgt := 1008) X.1.1 X.1.2.1 dL_law_33 (by decide) (by decide) (by decide) (by decide) (kk M1 M2 H locs ls hC hM hW hl)
set_option maxRecDepth 20000 in
theorem LKs_22 (X : LX p s m meth c b L xs D dA ρ1 ρ2 nc ns) {Z : ZS} (kk : LK p l e s m below meth c b D dA ρ1 ρ2 nc ns x 1041 [] Z Z) : LK p l e s m below meth c b D dA ρ1 ρ2 nc ns x 33 [.int (nI 22)] Z Z := by
  intro M1 M2 H locs ls hC hM hW hl
  exact lv_tableIn (off := 1008) (tgt := 1041) X.1.1 X.1.2.1 dL_law_33 (by decide) (by decide) (by decide) (by decide) (kk M1 M2 H locs ls hC hM hW hl)
set_option maxRecDepth 20000 in
theorem LKs_23 (X : LX p s m meth c b L xs D dA ρ1 ρ2 nc ns) {Z : ZS} (kk : LK p l e s m below meth c b D dA ρ1 ρ2 nc ns x 1064 [] Z Z) : LK p l e s m below meth c b D dA ρ1 ρ2 nc ns x 33 [.int (nI 23)] Z Z := by
  intro M1 M2 H locs ls hC hM hW hl
  exact lv_tableIn (off := 1031) (tgt := 1064) X.1.1 X.1.2.1 dL_law_33 (by decide) (by decide) (by decide) (by decide) (kk M1 M2 H locs ls hC hM hW hl)
set_option maxRecDepth 20000 in
theorem LKs_24 (X : LX p s m meth c b L xs D dA ρ1 ρ2 nc ns) {Z : ZS} (kk : LK p l e s m below meth c b D dA ρ1 ρ2 nc ns x 1087 [] Z Z) : LK p l e s m below meth c b D dA ρ1 ρ2 nc ns x 33 [.int (nI 24)] Z Z := by
  intro M1 M2 H locs ls hC hM hW hl
  exact lv_tableIn (off := 1054) (tgt := 1087) X.1.1 X.1.2.1 dL_law_33 (by decide) (by decide) (by decide) (by decide) (kk M1 M2 H locs ls hC hM hW hl)
set_option maxRecDepth 20000 in
theorem LKs_25 (X : LX p s m meth c b L xs D dA ρ1 ρ2 nc ns) {Z : ZS} (kk : LK p l e s m below meth c b D dA ρ1 ρ2 nc ns x 1100 [] Z Z) : LK p l e s m below meth c b D dA ρ1 ρ2 nc ns x 33 [.int (nI 25)] Z Z := by
  intro M1 M2 H locs ls hC hM hW hl
  exact lv_tableIn (off := 1067) (tgt := 1100) X.1.1 X.1.2.1 dL_law_33 (by decide) (by decide) (by decide) (by decide) (kk M1 M2 H locs ls hC hM hW hl)
set_option maxRecDepth 20000 in
theorem LKs_26 (X : LX p s m meth c b L xs D dA ρ1 ρ2 nc ns) {Z : ZS} (kk : LK p l e s m below meth c b D dA ρ1 ρ2 nc ns x 1113 [] Z Z) : LK p l e s m below meth c b D dA ρ1 ρ2 nc ns x 33 [.int (nI 26)] Z Z := by
  intro M1 M2 H locs ls hC hM hW hl
  exact lv_tableIn (off := 1080) (tgt := 1113) X.1.1 X.1.2.1 dL_law_33 (by decide) (by decide) (by decide) (by decide) (kk M1 M2 H locs ls hC hM hW hl)
set_option maxRecDepth 20000 in
theorem LKs_27 (X : LX p s m meth c b L xs D dA ρ1 ρ2 nc ns) {Z : ZS} (kk : LK p l e s m below meth c b D dA ρ1 ρ2 nc ns x 1146 [] Z Z) : LK p l e s m below meth c b D dA ρ1 ρ2 nc ns x 33 [.int (nI 27)] Z Z := by
  intro M1 M2 H locs ls hC hM hW hl
  exact lv_tableIn (off := 1113) (tgt := 1146) X.1.1 X.1.2.1 dL_law_33 (by decide) (by decide) (by decide) (by decide) (kk M1 M2 H locs ls hC hM hW hl)
set_option maxRecDepth 20000 in
theorem LKs_28 (X : LX p s m meth c b L xs D dA ρ1 ρ2 nc ns) {Z : ZS} (kk : LK p l e s m below meth c b D dA ρ1 ρ2 nc ns x 1159 [] Z Z) : LK p l e s m below meth c b D dA ρ1 ρ2 nc ns x 33 [.int (nI 28)] Z Z := by
  intro M1 M2 H locs ls hC hM hW hl
  exact lv_tableIn (off := 1126) (tgt := 1159) X.1.1 X.1.2.1 dL_law_33 (by decide) (by decide) (by decide) (by decide) (kk M1 M2 H locs ls hC hM hW hl)
set_option maxRecDepth 20000 in
theorem LKs_29 (X : LX p s m meth c b L xs D dA ρ1 ρ2 nc ns) {Z : ZS} (kk : LK p l e s m below meth c b D dA ρ1 ρ2 nc ns x 1172 [] Z Z) : LK p l e s m below meth c b D dA ρ1 ρ2 nc ns x 33 [.int (nI 29)] Z Z := by
  intro M1 M2 H locs ls hC hM hW hl
  exact lv_tableIn (off := 1139) (tgt := 1172) X.1.1 X.1.2.1 dL_law_33 (by decide) (by decide) (by decide) (by decide) (kk M1 M2 H locs ls hC hM hW hl)
set_option maxRecDepth 20000 in
theorem LKs_30 (X : LX p s m meth c b L xs D dA ρ1 ρ2 nc ns) {Z : ZS} (kk : LK p l e s m below meth c b D dA ρ1 ρ2 nc ns x 1195 [] Z Z) : LK p l e s m below meth c b D dA ρ1 ρ2 nc ns x 33 [.int (nI 30)] Z Z := by
  intro M1 M2 H locs ls hC hM hW hl
  exact lv_tableIn (off := 1162) (tgt := 1195) X.1.1 X.1.2.1 dL_law_33 (by decide) (by decide) (by decide) (by decide) (kk M1 M2 H locs ls hC hM hW hl)
set_option maxRecDepth 20000 in
theorem LKs_31 (X : LX p s m meth c b L xs D dA ρ1 ρ2 nc ns) {Z : ZS} (kk : LK p l e s m below meth c b D dA ρ1 ρ2 nc ns x 1238 [] Z Z) : LK p l e s m below meth c b D dA ρ1 ρ2 nc ns x 33 [.int (nI 31)] Z Z := by
  intro M1 M2 H locs ls hC hM hW hl
  exact lv_tableIn (off := 1205) (tgt := 1238) X.1.1 X.1.2.1 dL_law_33 (by decide) (by decide) (by decide) (by decide) (kk M1 M2 H locs ls hC hM hW hl)
set_option maxRecDepth 20000 in
theorem LKs_32 (X : LX p s m meth c b L xs D dA ρ1 ρ2 nc ns) {Z : ZS} (kk : LK p l e s m below meth c b D dA ρ1 ρ2 nc ns x 1271 [] Z Z) : LK p l e s m below meth c b D dA ρ1 ρ2 nc ns x 33 [.int (nI 32)] Z Z := by
  intro M1 M2 H locs ls hC hM hW hl
  exact lv_tableIn (off := 1238) (tgt := 1271) X.1.1 X.1.2.1 dL_law_33 (by decide) (by decide) (by decide) (by decide) (kk M1 M2 H locs ls hC hM hW hl)
set_option maxRecDepth 20000 in
theorem LKs_33 (X : LX p s m meth c b L xs D dA ρ1 ρ2 nc ns) {Z : ZS} (kk : LK p l e s m below meth c b D dA ρ1 ρ2 nc ns x 1304 [] Z Z) : LK p l e s m below meth c b D dA ρ1 ρ2 nc ns x 33 [.int (nI 33)] Z Z := by
  intro M1 M2 H locs ls hC hM hW hl
  exact lv_tableIn (off := 1271) (tgt := 1304) X.1.1 X.1.2.1 dL_law_33 (by decide) (by decide) (by decide) (by decide) (kk M1 M2 H locs ls hC hM hW hl)
set_option maxRecDepth 20000 in
theorem LKs_34 (X : LX p s m meth c b L xs D dA ρ1 ρ2 nc ns) {Z : ZS} (kk : LK p l e s m below meth c b D dA ρ1 ρ2 nc ns x 1317 [] Z Z) : LK p l e s m below meth c b D dA ρ1 ρ2 nc ns x 33 [.int (nI 34)] Z Z := by
  intro M1 M2 H locs ls hC hM hW hl
  exact lv_tableIn (off := 1284) (tgt := 1317) X.1.1 X.1.2.1 dL_law_33 (by decide) (by decide) (by decide) (by decide) (kk M1 M2 H locs ls hC hM hW hl)
set_option maxRecDepth 20000 in
theorem LKs_35 (X : LX p s m meth c b L xs D dA ρ1 ρ2 nc ns) {Z : ZS} (kk : LK p l e s m below meth c b D dA ρ1 ρ2 nc ns x 1340 [] Z Z) : LK p l e s m below meth c b D dA ρ1 ρ2 nc ns x 33 [.int (nI 35)] Z Z := by
  intro M1 M2 H locs ls hC hM hW hl
  exact lv_tableIn (off := 1307) (tgt := 1340) X.1.1 X.1.2.1 dL_law_33 (by decide) (by decide) (by decide) (by decide) (kk M1 M2 H locs ls hC hM hW hl)
set_option maxRecDepth 20000 in
theorem LKs_36 (X : LX p s m meth c b L xs D dA ρ1 ρ2 nc ns) {Z : ZS} (kk : LK p l e s m below meth c b D dA ρ1 ρ2 nc ns x 1373 [] Z Z) : LK p l e s m below meth c b D dA ρ1 ρ2 nc ns x 33 [.int (nI 36)] Z Z := by
  intro M1 M2 H locs ls hC hM hW hl
  exact lv_tableIn (off := 1340) (tgt := 1373) X.1.1 X.1.2.1 dL_law_33 (by decide) (by decide) (by decide) (by decide) (kk M1 M2 H locs ls hC hM hW hl)
set_option maxRecDepth 20000 in
theorem LKs_37 (X : LX p s m meth c b L xs D dA ρ1 ρ2 nc ns) {Z : ZS} (kk : LK p l e s m below meth c b D dA ρ1 ρ2 nc ns x 1416 [] Z Z) : LK p l e s m below meth c b D dA ρ1 ρ2 nc ns x 33 [.int (nI 37)] Z Z := by
  intro M1 M2 H locs ls hC hM hW hl
  exact lv_tableIn (off := 1383) (tgt := 1416) X.1.1 X.1.2.1 dL_law_33 (by decide) (by decide) (by decide) (by decide) (kk M1 M2 H locs ls hC hM hW hl)
set_option maxRecDepth 20000 in
theorem LKs_38 (X : LX p s m meth c b L xs D dA ρ1 ρ2 nc ns) {Z : ZS} (kk : LK p l e s m below meth c b D dA ρ1 ρ2 nc ns x 1449 [] Z Z) : LK p l e s m below meth c b D dA ρ1 ρ2 nc ns x 33 [.int (nI 38)] Z Z := by
  intro M1 M2 H locs ls hC hM hW hl
  exact lv_tableIn (off := 1416) (tgt := 1449) X.1.1 X.1.2.1 dL_law_33 (by decide) (by decide) (by decide) (by decide) (kk M1 M2 H locs ls hC hM hW hl)
set_option maxRecDepth 20000 in
theorem LKs_39 (X : LX p s m meth c b L xs D dA ρ1 ρ2 nc ns) {Z : ZS} (kk : LK p l e s m below meth c b D dA ρ1 ρ2 nc ns x 1472 [] Z Z) : LK p l e s m below meth c b D dA ρ1 ρ2 nc ns x 33 [.int (nI 39)] Z Z := by
  intro M1 M2 H locs ls hC hM hW hl
  exact lv_tableIn (off := 1439) (tgt := 1472) X.1.1 X.1.2.1 dL_law_33 (by decide) (by decide) (by decide) (by decide) (kk M1 M2 H locs ls hC hM hW hl)
set_option maxRecDepth 20000 in
theorem LKs_40 (X : LX p s m meth c b L xs D dA ρ1 ρ2 nc ns) {Z : ZS} (kk : LK p l e s m below meth c b D dA ρ1 ρ2 nc ns x 1495 [] Z Z) : LK p l e s m below meth c b D dA ρ1 ρ2 nc ns x 33 [.int (nI 40)] Z Z := by
  intro M1 M2 H locs ls hC hM hW hl
  exact lv_tableIn (off := 1462) (tgt := 1495) X.1.1 X.1.2.1 dL_law_33 (by decide) (by decide) (by decide) (by decide) (kk M1 M2 H locs ls hC hM hW hl)
set_option maxRecDepth 20000 in
theorem LKs_41 (X : LX p s m meth c b L xs D dA ρ1 ρ2 nc ns) {Z : ZS} (kk : LK p l e s m below meth c b D dA ρ1 ρ2 nc ns x 1538 [] Z Z) : LK p l e s m below meth c b D dA ρ1 ρ2 nc ns x 33 [.int (nI 41)] Z Z := by
  intro M1 M2 H locs ls hC hM hW hl
  exact lv_tableIn (off := 1505) (tgt := 1538) X.1.1 X.1.2.1 dL_law_33 (by decide) (by decide) (by decide) (by decide) (kk M1 M2 H locs ls hC hM hW hl)
set_option maxRecDepth 20000 in
theorem LKs_42 (X : LX p s m meth c b L xs D dA ρ1 ρ2 nc ns) {Z : ZS} (kk : LK p l e s m below meth c b D dA ρ1 ρ2 nc ns x 1561 [] Z Z) : LK p l e s m below meth c b D dA ρ1 ρ2 nc ns x 33 [.int (nI 42)] Z Z := by
  intro M1 M2 H locs ls hC hM hW hl
  exact lv_tableIn (off := 1528) (tgt := 1561) X.1.1 X.1.2.1 dL_law_33 (by decide) (by decide) (by decide) (by decide) (kk M1 M2 H locs ls hC hM hW hl)
set_option maxRecDepth 20000 in
theorem LKs_43 (X : LX p s m meth c b L xs D dA ρ1 ρ2 nc ns) {Z : ZS} (kk : LK p l e s m below meth c b D dA ρ1 ρ2 nc ns x 1574 [] Z Z) : LK p l e s m below meth c b D dA ρ1 ρ2 nc ns x 33 [.int (nI 43)] Z Z := by
  intro M1 M2 H locs ls hC hM hW hl
  exact lv_tableIn (off := 1541) (tgt := 1574) X.1.1 X.1.2.1 dL_law_33 (by decide) (by decide) (by decide) (by decide) (kk M1 M2 H locs ls hC hM hW hl)
set_option maxRecDepth 20000 in
theorem LKs_44 (X : LX p s m meth c b L xs D dA ρ1 ρ2 nc ns) {Z : ZS} (kk : LK p l e s m below meth c b D dA ρ1 ρ2 nc ns x 1587 [] Z Z) : LK p l e s m below meth c b D dA ρ1 ρ2 nc ns x 33 [.int (nI 44)] Z Z := by
  intro M1 M2 H locs ls hC hM hW hl
  exact lv_tableIn (off := 1554) (tgt := 1587) X.1.1 X.1.2.1 dL_law_33 (by decide) (by decide) (by decide) (by decide) (kk M1 M2 H locs ls hC hM hW hl)
set_option maxRecDepth 20000 in
theorem LKs_d (X : LX p s m meth c b L xs D dA ρ1 ρ2 nc ns) {Z : ZS} {j : Nat} (h1 : 45 ≤ j) (h2 : j < 64) (kk : LK p l e s m below meth c b D dA ρ1 ρ2 nc ns x 1610 [] Z Z) : LK p l e s m below meth c b D dA ρ1 ρ2 nc ns x 33 [.int (nI j)] Z Z := by
  intro M1 M2 H locs ls hC hM hW hl
  exact lv_tableOut (tgt := 1610) X.1.1 X.1.2.1 dL_law_33 (Or.inr (by rw [nI_toInt (by omega)]; omega)) (by decide) (kk M1 M2 H locs ls hC hM hW hl)
set_option maxRecDepth 20000 in
theorem LKs (X : LX p s m meth c b L xs D dA ρ1 ρ2 nc ns) (hin : ∀ k : Int32, 0 ≤ k → k ≤ 5 → vp_in (x + k) L) {Z : ZS} (ok : Zok Z) (next : ∀ Z1 : ZS, Zok Z1 → LK p l e s m below meth c b D dA ρ1 ρ2 nc ns x 1610 [] Z1 Z1) : ∀ j : Nat, j < 64 → LK p l e s m below meth c b D dA ρ1 ρ2 nc ns x 33 [.int (nI j)] Z Z := by
  intro j hj
  match j, hj with
  | 0, _ => exact LKs_0 X (LKc_0 X hin ok next)
  | 1, _ => exact LKs_1 X (LKc_1 X hin ok next)
  | 2, _ => exact LKs_2 X (LKc_2 X hin ok next)
  | 3, _ => exact LKs_3 X (LKc_3 X hin ok next)
  | 4, _ => exact LKs_4 X (LKc_4 X hin ok next)
  | 5, _ => exact LKs_5 X (LKc_5 X hin ok next)
  | 6, _ => exact LKs_6 X (LKc_6 X hin ok next)
  | 7, _ => exact LKs_7 X (LKc_7 X hin ok next)
  | 8, _ => exact LKs_8 X (LKc_8 X hin ok next)
  | 9, _ => exact LKs_9 X (LKc_9 X hin ok next)
  | 10, _ => exact LKs_10 X (LKc_10 X hin ok next)
  | 11, _ => exact LKs_11 X (LKc_11 X hin ok next)
  | 12, _ => exact LKs_12 X (LKc_12 X hin ok next)
  | 13, _ => exact LKs_13 X (LKc_13 X hin ok next)
  | 14, _ => exact LKs_14 X (LKc_14 X hin ok next)
  | 15, _ => exact LKs_15 X (LKc_15 X hin ok next)
  | 16, _ => exact LKs_16 X (LKc_16 X hin ok next)
  | 17, _ => exact LKs_17 X (LKc_17 X hin ok next)
  | 18, _ => exact LKs_18 X (LKc_18 X hin ok next)
  | 19, _ => exact LKs_19 X (LKc_19 X hin ok next)
  | 20, _ => exact LKs_20 X (LKc_20 X hin ok next)
  | 21, _ => exact LKs_21 X (LKc_21 X hin ok next)
  | 22, _ => exact LKs_22 X (LKc_22 X hin ok next)
  | 23, _ => exact LKs_23 X (LKc_23 X hin ok next)
  | 24, _ => exact LKs_24 X (LKc_24 X hin ok next)
  | 25, _ => exact LKs_25 X (LKc_25 X hin ok next)
  | 26, _ => exact LKs_26 X (LKc_26 X hin ok next)
  | 27, _ => exact LKs_27 X (LKc_27 X hin ok next)
  | 28, _ => exact LKs_28 X (LKc_28 X hin ok next)
  | 29, _ => exact LKs_29 X (LKc_29 X hin ok next)
  | 30, _ => exact LKs_30 X (LKc_30 X hin ok next)
  | 31, _ => exact LKs_31 X (LKc_31 X hin ok next)
  | 32, _ => exact LKs_32 X (LKc_32 X hin ok next)
  | 33, _ => exact LKs_33 X (LKc_33 X hin ok next)
  | 34, _ => exact LKs_34 X (LKc_34 X hin ok next)
  | 35, _ => exact LKs_35 X (LKc_35 X hin ok next)
  | 36, _ => exact LKs_36 X (LKc_36 X hin ok next)
  | 37, _ => exact LKs_37 X (LKc_37 X hin ok next)
  | 38, _ => exact LKs_38 X (LKc_38 X hin ok next)
  | 39, _ => exact LKs_39 X (LKc_39 X hin ok next)
  | 40, _ => exact LKs_40 X (LKc_40 X hin ok next)
  | 41, _ => exact LKs_41 X (LKc_41 X hin ok next)
  | 42, _ => exact LKs_42 X (LKc_42 X hin ok next)
  | 43, _ => exact LKs_43 X (LKc_43 X hin ok next)
  | 44, _ => exact LKs_44 X (LKc_44 X hin ok next)
  | j + 45, h => exact LKs_d X (by omega) h (next Z ok)
set_option maxRecDepth 20000 in
theorem LK_end (X : LX p s m meth c b L xs D dA ρ1 ρ2 nc ns) {Z1 Z2 : ZS} : LK p l e s m below meth c b D dA ρ1 ρ2 nc ns x 1616 [] Z1 Z2 := by
  intro M1 M2 H locs ls hC hM hW hl
  obtain ⟨hx, hb, hr, -, -, -, -, -, hlocks, -⟩ := X.1
  refine lv_iconst (v := 1) hx hb dL_law_1616 (by decide) ?_
  refine va_forget (fun q hq => hW.2.2.2.2.2.2.2 q hq) ?_
  refine W.widen (k := 600000) (n := 7302250) X.2.2.2.1 X.2.2.2.2 ?_
  exact lw_ret hx hb hr hlocks dL_law_1617
theorem lw_and (y : Int32) : ∃ j : Nat, j < 64 ∧ y &&& 63 = nI j := by
  have h : (y &&& 63).toBitVec.toNat < 64 := by
    have e : (y &&& 63).toBitVec = y.toBitVec &&& 63#32 := rfl
    rw [e, BitVec.toNat_and]
    exact Nat.lt_of_le_of_lt Nat.and_le_right (by decide)
  refine ⟨(y &&& 63).toBitVec.toNat, h, ?_⟩
  apply Int32.toBitVec_inj.mp
  show (y &&& 63).toBitVec = BitVec.ofNat 32 (y &&& 63).toBitVec.toNat
  simp
theorem LK_head (X : LX p s m meth c b L xs D dA ρ1 ρ2 nc ns) (hL : L ≤ 3072) {i : Nat} (hi : i ≤ L + 5) {Z : ZS} (kin : i + 6 ≤ L → ∀ j : Nat, j < 64 → LK p l e s m below meth c b D dA ρ1 ρ2 nc ns (nI i) 33 [.int (nI j)] Z Z) : LK p l e s m below meth c b D dA ρ1 ρ2 nc ns (nI i) 18 [] Z Z := by
  intro M1 M2 H locs ls hC hM hW hl
  have k0 := LK_end (x := nI i) (l := l) (e := e) (below := below) X M1 M2 H locs ls hC hM hW hl
  have k1 : i + 6 ≤ L → ∀ j : Nat, j < 64 → _ := fun h j hj => kin h j hj M1 M2 H locs ls hC hM hW hl
  obtain ⟨hx, hb, hr, -, -, -, hX, hbl, hlocks, -⟩ := X.1
  have eI : (nI i).toInt = i := nI_toInt (by omega)
  have e6 : (Int32.ofNat L - 6).toInt = (L : Int) - 6 := by
    have h1 : (Int32.ofNat L).toInt = L := nI_toInt (n := L) (by omega)
    have h2 : (6 : Int32).toInt = 6 := by decide
    rw [Int32.toInt_sub, h1, h2]
    exact Int.bmod_eq_of_le (by omega) (by omega)
  refine lv_iload_n hx hb dL_law_18 rfl (lv_at hl 0 rfl) ?_
  refine lv_aload_n hx hb dL_law_19 rfl (lv_at hl 3 rfl) ?_
  refine va_slen hx hb hX hbl (Nat.not_le.mpr hbl) hW.2.2.2.2.2 dL_law_20 ?_
  refine lv_bipush (v := 6) hx hb dL_law_21 (by decide) ?_
  refine lv_isub hx hb dL_law_23 ?_
  refine lv_icmp_gt (tgt := 1616) hx hb dL_law_24 (by decide) (fun _ => k0) (fun h => ?_)
  have hle : i + 6 ≤ L := by
    rw [Int32.lt_iff_toInt_lt, eI, e6] at h
    omega
  refine lv_aload_n hx hb dL_law_27 rfl (lv_at hl 3 rfl) ?_
  refine lv_iload_n hx hb dL_law_28 rfl (lv_at hl 0 rfl) ?_
  refine va_sld hx hb hX hbl (Nat.not_le.mpr hbl) hW.2.2.2.2.2 (vp_in_nI (by omega) (by omega)) dL_law_29 ?_
  refine lv_bipush (v := 63) hx hb dL_law_30 (by decide) ?_
  refine lv_iand hx hb dL_law_32 ?_
  obtain ⟨j, hj, ej⟩ := lw_and (xs (nI i).toNatClampNeg)
  rw [ej]
  exact k1 hle j hj
theorem law_loop (X : LX p s m meth c b L xs D dA ρ1 ρ2 nc ns) (hL : L ≤ 3072) : ∀ (n i : Nat), L < i + n → i ≤ L + 5 → ∀ Z : ZS, Zok Z → LK p l e s m below meth c b D dA ρ1 ρ2 nc ns (nI i) 18 [] Z Z := by
  intro n
  induction n with
  | zero =>
    intro i h1 h2 Z ok
    exact LK_head X hL h2 (fun h => absurd h (by omega))
  | succ n ih =>
    intro i h1 h2 Z ok
    refine LK_head X hL h2 (fun h => ?_)
    refine LKs X (fun k k0 k5 => ?_) ok (fun Z1 ok1 => LK_next X ?_)
    · obtain ⟨j, hj, rfl⟩ := nI_of2 (M := 5) (n := 5) (by decide) (Int32.not_lt.mpr k0) k5
      rw [nI_add]
      exact vp_in_nI (by omega) (by omega)
    · rw [show (6 : Int32) = nI 6 from rfl, nI_add]
      exact ih (i + 6) (by omega) (by omega) Z1 ok1
end LLP
def lw_Me : jk_M := ([], fun _ _ => 0, fun _ _ => 0, fun _ _ => none)
theorem lw_SLe {gr : List (Nat × Nat)} : SL gr 0 [] [] lw_Me := ⟨rfl, rfl, rfl, rfl, fun e h => absurd h List.not_mem_nil, fun e h => absurd h List.not_mem_nil, Nat.zero_le _⟩
/-- the law, from its entry -/
theorem whole_start {p : Program} {e : Env} {s : State} {m : MethodId} {below : List Frame} {meth : Method} {c : Code} (l : Launch) (hflags : l.flags = flags0) {b L : Nat} {xs : Nat → Int32} (hL : L ≤ 3072) (C0 : lw_At p s m meth c b L xs) : W p l e room_1 s m #[Value.ref b] below meth c s.heap [] 0 0 (lw_Z below #[Value.ref b] s) (entryFrame m ([Value.ref b] : List Value).toArray 4) := by
  obtain ⟨hx, hb, hr, hml, hown, hts, hX, hbl, hlocks, hgv⟩ := id C0
  obtain ⟨D, dA, hK⟩ := lw_K hts
  obtain ⟨stat, hstat⟩ := lw_St hgv hts
  have hNs := lw_Ns hts
  obtain ⟨ρ1, eρ1⟩ : ∃ ρ : Nat → Nat, ρ = fun j => if j < 1000 then s.heap.size + j else stat j := ⟨_, rfl⟩
  obtain ⟨ρ2, eρ2⟩ : ∃ ρ : Nat → Nat, ρ = fun j => if j < 1000 then s.heap.size + 125 + j else stat j := ⟨_, rfl⟩
  have r1 : ∀ j, j < 1000 → ρ1 j = s.heap.size + j := fun j hj => by rw [eρ1]; exact if_pos hj
  have r2 : ∀ j, j < 1000 → ρ2 j = s.heap.size + 125 + j := fun j hj => by rw [eρ2]; exact if_pos hj
  have c1 : lw_Cx D dA s ρ1 := ⟨hK, hstat ρ1 (fun j hj => by rw [eρ1]; exact if_neg (by omega)), hNs⟩
  have c2 : lw_Cx D dA s ρ2 := ⟨hK, hstat ρ2 (fun j hj => by rw [eρ2]; exact if_neg (by omega)), hNs⟩
  clear eρ1 eρ2 hstat
  have hW : lw_W2 D dA s ρ1 lw_Me ρ2 lw_Me s.heap [] := ⟨fun k q h => absurd h (by simp [jk_w, lw_Me]), fun k q h => absurd h (by simp [jk_w, lw_Me]), ⟨fun i j p q h => absurd h (by simp [jk_w, lw_Me]), fun k q h => absurd h (by simp [jk_w, lw_Me])⟩, ⟨fun i j p q h => absurd h (by simp [jk_w, lw_Me]), fun k q h => absurd h (by simp [jk_w, lw_Me])⟩, fun i j x y h => absurd h (by simp [jk_w, lw_Me]), va_S.rf⟩
  have hl := lv_entry ([.ref b]) (n := 4) (Nat.le_of_ble_eq_true rfl)
  rw [lg_entry_eq]
  generalize (lg_sl ([.ref b]) ++ List.replicate (4 - (lg_sl ([.ref b])).length) Slot.unset).toArray = ls at hl ⊢
  have hl : lv_has ls 4 [(0, .ref b)] := hl
  refine lw_new (st := []) C0 c1 hW (r1 0 (by omega)) nwL_7 dL_law_0 ⟨Nat.le_of_ble_eq_true rfl, Nat.le_of_ble_eq_true rfl⟩ (fun H hW z1 => ?_)
  refine lv_dup hx hb dL_law_3 rfl ?_
  refine lw_callI (o := 0) (rest := [.ref (ρ1 0)]) C0 c1 hW (fun j h1 h2 => ?_) kL_9 dL_law_4 (by decide) hl (T_i_X10_0 (d := 0) (lw_SLe.nw (gr := jGC) (sh := (0, 10)) rfl)) rfl (Nat.le_of_ble_eq_true rfl) (Nat.le_of_ble_eq_true rfl) ⟨Nat.le_of_ble_eq_true rfl, Nat.le_of_ble_eq_true rfl⟩ (fun r MC H2 locs2 q1 hW2 z2 => ?_)
  · have e : (jk_nw lw_Me (0, 10)).1.length = 1 := rfl
    rw [e, r1 j h2, z1]
    omega
  obtain ⟨rfl, hSC⟩ := q1
  have hCV : CV MC Z00 := CV_new hSC
  have eC : MC.1.length = 125 := by rw [hSC.1]; rfl
  have z3 : H2.size = s.heap.size + 125 := by
    have e : (jk_nw lw_Me (0, 10)).1.length = 1 := rfl
    rw [e, eC] at z2
    omega
  clear hSC hW
  refine lv_astore_n (lv' := [(1, .ref (ρ1 0)), (0, .ref b)]) hx hb dL_law_7 rfl hl (by decide) rfl (fun ls hl => ?_)
  refine lw_new (st := []) C0 c2 hW2.swap (by rw [z3]; exact r2 0 (by omega)) nwL_10 dL_law_8 ⟨Nat.le_of_ble_eq_true rfl, Nat.le_of_ble_eq_true rfl⟩ (fun H3 hW3 z4 => ?_)
  refine lv_dup hx hb dL_law_11 rfl ?_
  refine lw_callI (o := 0) (rest := [.ref (ρ2 0)]) C0 c2 hW3 (fun j h1 h2 => ?_) kL_12 dL_law_12 (by decide) hl (T_i_X11_0 (d := 0) (lw_SLe.nw (gr := jGM) (sh := (0, 11)) rfl)) rfl (Nat.le_of_ble_eq_true rfl) (Nat.le_of_ble_eq_true rfl) ⟨Nat.le_of_ble_eq_true rfl, Nat.le_of_ble_eq_true rfl⟩ (fun r MM H4 locs4 q1 hW4 z5 => ?_)
  · have e : (jk_nw lw_Me (0, 11)).1.length = 1 := rfl
    rw [e, r2 j h2, z4, z3]
    omega
  obtain ⟨rfl, hSM⟩ := q1
  have hMV : MV MM Z00 := MV_new hSM
  refine lv_astore_n (lv' := [(2, .ref (ρ2 0)), (1, .ref (ρ1 0)), (0, .ref b)]) hx hb dL_law_15 rfl hl (by decide) rfl (fun ls hl => ?_)
  refine lv_iconst (v := 0) hx hb dL_law_16 (by decide) ?_
  refine lv_istore_n (lv' := [(3, .int 0), (2, .ref (ρ2 0)), (1, .ref (ρ1 0)), (0, .ref b)]) hx hb dL_law_17 rfl hl (by decide) rfl (fun ls hl => ?_)
  have h0 := law_loop (l := l) (e := e) (below := below) (nc := 0 + 1 + 124 + 1 + 31) (ns := 0 + jk_nf 10 + 3674 + jk_nf 11 + 2186) ⟨C0, c1, c2, (by omega), (by have e1 : jk_nf 10 = 13 := rfl; have e2 : jk_nf 11 = 51 := rfl; omega)⟩ hL (L + 1) 0 (by omega) (by omega) Z00 Zok_new
  rw [nI_0] at h0
  exact h0 MC MM H4 locs4 ls hCV hMV hW4.swap hl
