/-! the game in numbers, as the reference reckons it -/
def bi (b : Bool) : Int32 := if b then 1 else 0
theorem bi_01 (b : Bool) : bi b = 0 ∨ bi b = 1 := by cases b <;> simp [bi]
theorem bi_0 {b : Bool} : bi b = 0 ↔ b = false := by cases b <;> simp [bi]
theorem bi_1 {b : Bool} : bi b = 1 ↔ b = true := by cases b <;> simp [bi]
theorem bi_n0 {b : Bool} : ¬ bi b = 0 ↔ b = true := by cases b <;> simp [bi]
def jin (v lo hi : Int32) : Bool := decide (lo ≤ v) && decide (v ≤ hi)
def jhm (l : Nat) : Nat := if l = 0 then 22 else if l = 1 then 27 else if l = 2 then 72 else 77
def jsz (v : Int32) : Int32 := if v < 0 then -v else v
def jea (a b : Nat) : Int32 := nI (b % 10) - nI (a % 10)
def jso (a b : Nat) : Int32 := nI (b / 10) - nI (a / 10)
def jds (a b : Nat) : Int32 := if jsz (jso a b) < jsz (jea a b) then jsz (jea a b) else jsz (jso a b)
def jwd2 (dx dy : Int32) : Int32 :=
  if dx = 0 ∧ dy = 0 then -5
  else if 2 * jsz dy ≤ jsz dx then (if 0 < dx then 0 else 4)
  else if 2 * jsz dx ≤ jsz dy then (if 0 < dy then 2 else 6)
  else if 0 < dy then (if 0 < dx then 1 else 3) else (if 0 < dx then 7 else 5)
def jwd (l c : Nat) : Int32 := jwd2 (jea (jhm l) c) (jso (jhm l) c)
def jrem (x y : Int32) : Int32 := x - x / y * y
def jbm (g : Nat → Int32) (l : Nat) (hr : Int32) : Int32 := jrem (g (100 + 5 * l + 0) + hr * g (100 + 5 * l + 1)) 8
def jdk (g : Nat → Int32) (l : Nat) (w : Int32) : Bool := decide ((g (100 + 5 * l + 3) >>> (w &&& 31)) &&& 1 = 1)
def jlit (g : Nat → Int32) (l c : Nat) (hr fog : Int32) : Bool := decide (jwd l c = -5) || (decide (jwd l c = jbm g l hr) && !jdk g l (jwd l c) && decide (jds (jhm l) c ≤ g (100 + 5 * l + 2) - fog))
def jlb (g : Nat → Int32) (l c : Nat) : Bool := jlit g l c (g 181) (g (100 + 5 * l + 4))
def jlonA (g : Nat → Int32) (c : Nat) : Nat → Int32
  | 0 => 0
  | n + 1 => jlonA g c n ||| (if jlb g n c then (1 : Int32) <<< (nI n &&& 31) else 0)
def jlon (g : Nat → Int32) (c : Nat) : Int32 := jlonA g c 4
def jnrA (c : Nat) : Nat → Nat
  | 0 => 0
  | n + 1 => if jds (jhm (n + 1)) c < jds (jhm (jnrA c n)) c then n + 1 else jnrA c n
def jnr (c : Nat) : Nat := jnrA c 3
def jsm (f : Nat → Int32) : Nat → Int32
  | 0 => 0
  | n + 1 => jsm f n + f n
theorem jhm_lt (l : Nat) : jhm l < 100 := by unfold jhm; split <;> (try split) <;> (try split) <;> omega
theorem jnrA_le (c : Nat) : ∀ n, jnrA c n ≤ n
  | 0 => Nat.le_refl 0
  | n + 1 => by
    have h := jnrA_le c n
    show (if _ then n + 1 else jnrA c n) ≤ n + 1
    split
    · exact Nat.le_refl _
    · exact Nat.le_succ_of_le h
theorem jnr_lt (c : Nat) : jnr c < 4 := by have := jnrA_le c 3; unfold jnr; omega
theorem jin_of {x : Int32} {n : Nat} {N : Int32} (hN : N = nI n) (hn : n < 2 ^ 31) (h : jin x 0 N = true) : ∃ j, j ≤ n ∧ x = nI j := by
  subst hN
  unfold jin at h
  simp only [Bool.and_eq_true, decide_eq_true_eq] at h
  rcases pk_ix x hn with q | q | ⟨j, hj, e⟩
  · exact absurd h.1 (Int32.not_le.mpr q)
  · exact ⟨n, Nat.le_refl n, Int32.le_antisymm h.2 q⟩
  · exact ⟨j, Nat.le_of_lt hj, e⟩
theorem jin_nI {j n : Nat} (hj : j ≤ n) (hn : n < 2 ^ 31) : jin (nI j) 0 (nI n) = true := by
  unfold jin
  simp only [Bool.and_eq_true, decide_eq_true_eq]
  exact ⟨nI_pos' (by omega), (nI_leI (by omega) hn).mpr hj⟩
/-- plainName of the classes -/
theorem pn_X0 : plainName RX0 = true := by decide +kernel
theorem pn_X1 : plainName RX1 = true := by decide +kernel
theorem pn_X2 : plainName RX2 = true := by decide +kernel
theorem pn_X3 : plainName RX3 = true := by decide +kernel
theorem pn_X4 : plainName RX4 = true := by decide +kernel
theorem pn_X5 : plainName RX5 = true := by decide +kernel
theorem pn_X6 : plainName RX6 = true := by decide +kernel
theorem pn_X7 : plainName RX7 = true := by decide +kernel
theorem pn_X8 : plainName RX8 = true := by decide +kernel
theorem pn_J6 : plainName RJ6 = true := by decide +kernel
theorem pn_L : plainName RL = true := by decide +kernel
theorem pf_L_cell : plainFor yL_cell = true := plainFor_of_name pn_L
theorem pf_L_acts : plainFor yL_acts = true := plainFor_of_name pn_L
theorem pf_L_hangs : plainFor yL_hangs = true := plainFor_of_name pn_L
theorem pf_L_same : plainFor yL_same = true := plainFor_of_name pn_L
theorem pf_L_refuses : plainFor yL_refuses = true := plainFor_of_name pn_L
theorem pf_X8_init : plainFor yX8_init = true := plainFor_of_name pn_X8
theorem pf_X0_init : plainFor yX0_init = true := plainFor_of_name pn_X0
theorem pf_X8_distanceBetween : plainFor yX8_distanceBetween = true := plainFor_of_name pn_X8
theorem pf_J9_abs_0f7a4 : plainFor yJ9_abs_0f7a4 = true := by decide +kernel
theorem pf_J9_max_7cf53 : plainFor yJ9_max_7cf53 = true := by decide +kernel
theorem pf_X0_windOf : plainFor yX0_windOf = true := plainFor_of_name pn_X0
theorem pf_X6_init : plainFor yX6_init = true := plainFor_of_name pn_X6
theorem pf_X3_init : plainFor yX3_init = true := plainFor_of_name pn_X3
theorem pf_X2_init : plainFor yX2_init = true := plainFor_of_name pn_X2
theorem pf_X5_init : plainFor yX5_init = true := plainFor_of_name pn_X5
theorem pf_X1_init : plainFor yX1_init = true := plainFor_of_name pn_X1
theorem pf_X7_init : plainFor yX7_init = true := plainFor_of_name pn_X7
theorem pf_X4_init : plainFor yX4_init = true := plainFor_of_name pn_X4
theorem pf_X8_doAll : plainFor yX8_doAll = true := plainFor_of_name pn_X8
theorem pf_X7_read : plainFor yX7_read = true := plainFor_of_name pn_X7
theorem pf_X7_readPart : plainFor yX7_readPart = true := plainFor_of_name pn_X7
theorem pf_X7_signAhead : plainFor yX7_signAhead = true := plainFor_of_name pn_X7
theorem pf_X7_readSign : plainFor yX7_readSign = true := plainFor_of_name pn_X7
theorem pf_X7_readCell : plainFor yX7_readCell = true := plainFor_of_name pn_X7
theorem pf_X7_readDigit : plainFor yX7_readDigit = true := plainFor_of_name pn_X7
theorem pf_X7_readShip : plainFor yX7_readShip = true := plainFor_of_name pn_X7
theorem pf_X7_readNumber : plainFor yX7_readNumber = true := plainFor_of_name pn_X7
theorem pf_J9_min_7cf53 : plainFor yJ9_min_7cf53 = true := by decide +kernel
theorem pf_X6_copyFrom : plainFor yX6_copyFrom = true := plainFor_of_name pn_X6
theorem pf_X3_copyFrom : plainFor yX3_copyFrom = true := plainFor_of_name pn_X3
theorem pf_X2_copyFrom : plainFor yX2_copyFrom = true := plainFor_of_name pn_X2
theorem pf_X5_copyFrom : plainFor yX5_copyFrom = true := plainFor_of_name pn_X5
theorem pf_X6_doPart : plainFor yX6_doPart = true := plainFor_of_name pn_X6
theorem pf_X6_rockError : plainFor yX6_rockError = true := plainFor_of_name pn_X6
theorem pf_X8_isCell : plainFor yX8_isCell = true := plainFor_of_name pn_X8
theorem pf_X6_turnRock : plainFor yX6_turnRock = true := plainFor_of_name pn_X6
theorem pf_X6_shipError : plainFor yX6_shipError = true := plainFor_of_name pn_X6
theorem pf_X6_hasRock : plainFor yX6_hasRock = true := plainFor_of_name pn_X6
theorem pf_X6_shipAtSeaIn : plainFor yX6_shipAtSeaIn = true := plainFor_of_name pn_X6
theorem pf_X5_isAtSeaIn : plainFor yX5_isAtSeaIn = true := plainFor_of_name pn_X5
theorem pf_X6_addShip : plainFor yX6_addShip = true := plainFor_of_name pn_X6
theorem pf_X8_isShip : plainFor yX8_isShip = true := plainFor_of_name pn_X8
theorem pf_X5_begin : plainFor yX5_begin = true := plainFor_of_name pn_X5
theorem pf_X8_isLight : plainFor yX8_isLight = true := plainFor_of_name pn_X8
theorem pf_X3_turnDark : plainFor yX3_turnDark = true := plainFor_of_name pn_X3
theorem pf_X6_passError : plainFor yX6_passError = true := plainFor_of_name pn_X6
theorem pf_X6_passHours : plainFor yX6_passHours = true := plainFor_of_name pn_X6
theorem pf_X6_nextToGo : plainFor yX6_nextToGo = true := plainFor_of_name pn_X6
theorem pf_X6_goesToWreck : plainFor yX6_goesToWreck = true := plainFor_of_name pn_X6
theorem pf_X5_nextCell : plainFor yX5_nextCell = true := plainFor_of_name pn_X5
theorem pf_J6_compare_7cf53 : plainFor yJ6_compare_7cf53 = true := plainFor_of_name pn_J6
theorem pf_X6_litBy : plainFor yX6_litBy = true := plainFor_of_name pn_X6
theorem pf_X3_lightsCell : plainFor yX3_lightsCell = true := plainFor_of_name pn_X3
theorem pf_X3_beamWind : plainFor yX3_beamWind = true := plainFor_of_name pn_X3
theorem pf_X3_reach : plainFor yX3_reach = true := plainFor_of_name pn_X3
theorem pf_X3_isDark : plainFor yX3_isDark = true := plainFor_of_name pn_X3
theorem pf_X5_breakIn : plainFor yX5_breakIn = true := plainFor_of_name pn_X5
theorem pf_X6_oweWreck : plainFor yX6_oweWreck = true := plainFor_of_name pn_X6
theorem pf_X2_oweWreck : plainFor yX2_oweWreck = true := plainFor_of_name pn_X2
theorem pf_X5_comeTo : plainFor yX5_comeTo = true := plainFor_of_name pn_X5
theorem pf_X2_earn : plainFor yX2_earn = true := plainFor_of_name pn_X2
theorem pf_X3_thinFog : plainFor yX3_thinFog = true := plainFor_of_name pn_X3
theorem pf_X1_record : plainFor yX1_record = true := plainFor_of_name pn_X1
theorem pf_X1_dropOldest : plainFor yX1_dropOldest = true := plainFor_of_name pn_X1
theorem pf_X8_pass : plainFor yX8_pass = true := plainFor_of_name pn_X8
theorem pf_X8_fault : plainFor yX8_fault = true := plainFor_of_name pn_X8
theorem pf_X8_undo : plainFor yX8_undo = true := plainFor_of_name pn_X8
theorem pf_X1_takeBack : plainFor yX1_takeBack = true := plainFor_of_name pn_X1
theorem pf_X8_restore : plainFor yX8_restore = true := plainFor_of_name pn_X8
theorem pf_X8_lightOf : plainFor yX8_lightOf = true := plainFor_of_name pn_X8
theorem pf_X3_told : plainFor yX3_told = true := plainFor_of_name pn_X3
theorem pf_X3_litCells : plainFor yX3_litCells = true := plainFor_of_name pn_X3
theorem pf_X8_keeperOf : plainFor yX8_keeperOf = true := plainFor_of_name pn_X8
theorem pf_X2_told : plainFor yX2_told = true := plainFor_of_name pn_X2
theorem pf_X8_count : plainFor yX8_count = true := plainFor_of_name pn_X8
theorem pf_X6_rocks : plainFor yX6_rocks = true := plainFor_of_name pn_X6
theorem pf_J6_bitCount_0f7a4 : plainFor yJ6_bitCount_0f7a4 = true := plainFor_of_name pn_J6
theorem pf_X6_shipsThatAre : plainFor yX6_shipsThatAre = true := plainFor_of_name pn_X6
theorem pf_X6_litCells : plainFor yX6_litCells = true := plainFor_of_name pn_X6
theorem pf_X6_debts : plainFor yX6_debts = true := plainFor_of_name pn_X6
theorem pf_X6_paid : plainFor yX6_paid = true := plainFor_of_name pn_X6
theorem pf_X6_worthHome : plainFor yX6_worthHome = true := plainFor_of_name pn_X6
theorem pf_X8_rock : plainFor yX8_rock = true := plainFor_of_name pn_X8
theorem pf_X8_light : plainFor yX8_light = true := plainFor_of_name pn_X8
theorem pf_X8_isSetting : plainFor yX8_isSetting = true := plainFor_of_name pn_X8
theorem pf_X3_set : plainFor yX3_set = true := plainFor_of_name pn_X3
theorem pf_X8_ship : plainFor yX8_ship = true := plainFor_of_name pn_X8
theorem pf_X8_card : plainFor yX8_card = true := plainFor_of_name pn_X8
theorem pf_X6_canLayCard : plainFor yX6_canLayCard = true := plainFor_of_name pn_X6
theorem pf_X3_layCard : plainFor yX3_layCard = true := plainFor_of_name pn_X3
theorem pf_X8_wage : plainFor yX8_wage = true := plainFor_of_name pn_X8
theorem pf_X8_keep : plainFor yX8_keep = true := plainFor_of_name pn_X8
theorem pf_X8_clearText : plainFor yX8_clearText = true := plainFor_of_name pn_X8
theorem pf_X8_type : plainFor yX8_type = true := plainFor_of_name pn_X8
theorem pf_X7_append : plainFor yX7_append = true := plainFor_of_name pn_X7
theorem pf_X8_cellOf : plainFor yX8_cellOf = true := plainFor_of_name pn_X8
theorem pf_X8_shipOf : plainFor yX8_shipOf = true := plainFor_of_name pn_X8
theorem pf_X6_placeOf : plainFor yX6_placeOf = true := plainFor_of_name pn_X6
theorem pf_X5_told : plainFor yX5_told = true := plainFor_of_name pn_X5
theorem pf_X8_litIn : plainFor yX8_litIn = true := plainFor_of_name pn_X8
theorem pf_X8_share : plainFor yX8_share = true := plainFor_of_name pn_X8
theorem pf_X8_why : plainFor yX8_why = true := plainFor_of_name pn_X8
theorem pf_X3_whyDark : plainFor yX3_whyDark = true := plainFor_of_name pn_X3
theorem pf_X8_bestCard : plainFor yX8_bestCard = true := plainFor_of_name pn_X8
theorem pf_X8_worthWreckedInTrial : plainFor yX8_worthWreckedInTrial = true := plainFor_of_name pn_X8
theorem pf_X8_isWreckedInTrial : plainFor yX8_isWreckedInTrial = true := plainFor_of_name pn_X8
theorem pf_X8_ifPassed : plainFor yX8_ifPassed = true := plainFor_of_name pn_X8
theorem pf_X8_isLit : plainFor yX8_isLit = true := plainFor_of_name pn_X8
theorem pf_X3_meetsOnWalk : plainFor yX3_meetsOnWalk = true := plainFor_of_name pn_X3
theorem pf_X3_cellOnRing : plainFor yX3_cellOnRing = true := plainFor_of_name pn_X3
theorem pf_X3_eastOnRing : plainFor yX3_eastOnRing = true := plainFor_of_name pn_X3
theorem pf_J9_floorMod_7cf53 : plainFor yJ9_floorMod_7cf53 = true := by decide +kernel
/-! the reference's object at r, its arrays behind it: s, aside, past, snapshot, text, order -/
def mF (r : Nat) (f : Nat → Int32) : List Value := [.ref (r + 1), .ref (r + 2), .ref (r + 3), .int (f 3), .ref (r + 4), .int (f 5), .ref (r + 5), .int (f 7), .ref (r + 6), .int (f 9), .int (f 10), .int (f 11), .int (f 12), .int (f 13), .int (f 14)]
def mW (G : bkG) (M : bkM) (r : Nat) (s a p q t o f : Nat → Int32) : bkM := fun x =>
  if x = r then some (.inr (9, mF r f)) else if x = r + 1 then some (aI G 183 s) else if x = r + 2 then some (aI G 183 a) else if x = r + 3 then some (aI G 732 p) else if x = r + 4 then some (aI G 183 q) else if x = r + 5 then some (aC G 60 t) else if x = r + 6 then some (aI G 8 o) else M x
section MW
variable {G : bkG} {M : bkM} {r : Nat} {s a p q t o f g : Nat → Int32}
theorem mW_0 : mW G M r s a p q t o f r = some (.inr (9, mF r f)) := by simp [mW]
theorem mW_1 : mW G M r s a p q t o f (r + 1) = some (aI G 183 s) := by simp [mW]
theorem mW_2 : mW G M r s a p q t o f (r + 2) = some (aI G 183 a) := by simp [mW]
theorem mW_3 : mW G M r s a p q t o f (r + 3) = some (aI G 732 p) := by simp [mW]
theorem mW_4 : mW G M r s a p q t o f (r + 4) = some (aI G 183 q) := by simp [mW]
theorem mW_5 : mW G M r s a p q t o f (r + 5) = some (aC G 60 t) := by simp [mW]
theorem mW_6 : mW G M r s a p q t o f (r + 6) = some (aI G 8 o) := by simp [mW]
theorem mW_out {x : Nat} (h : x < r ∨ r + 7 ≤ x) : mW G M r s a p q t o f x = M x := by
  unfold mW
  rw [if_neg (by omega), if_neg (by omega), if_neg (by omega), if_neg (by omega), if_neg (by omega), if_neg (by omega), if_neg (by omega)]
theorem mS_1 : bku (mW G M r s a p q t o f) (r + 1) (aI G 183 g) = mW G M r g a p q t o f := by
  funext x
  by_cases h : x = r + 1
  · subst h
    rw [bku_at]
    exact mW_1.symm
  · rw [bku_ne h]
    unfold mW
    simp [h]
theorem mS_2 : bku (mW G M r s a p q t o f) (r + 2) (aI G 183 g) = mW G M r s g p q t o f := by
  funext x
  by_cases h : x = r + 2
  · subst h
    rw [bku_at]
    exact mW_2.symm
  · rw [bku_ne h]
    unfold mW
    simp [h]
theorem mS_3 : bku (mW G M r s a p q t o f) (r + 3) (aI G 732 g) = mW G M r s a g q t o f := by
  funext x
  by_cases h : x = r + 3
  · subst h
    rw [bku_at]
    exact mW_3.symm
  · rw [bku_ne h]
    unfold mW
    simp [h]
theorem mS_4 : bku (mW G M r s a p q t o f) (r + 4) (aI G 183 g) = mW G M r s a p g t o f := by
  funext x
  by_cases h : x = r + 4
  · subst h
    rw [bku_at]
    exact mW_4.symm
  · rw [bku_ne h]
    unfold mW
    simp [h]
theorem mS_5 : bku (mW G M r s a p q t o f) (r + 5) (aC G 60 g) = mW G M r s a p q g o f := by
  funext x
  by_cases h : x = r + 5
  · subst h
    rw [bku_at]
    exact mW_5.symm
  · rw [bku_ne h]
    unfold mW
    simp [h]
theorem mS_6 : bku (mW G M r s a p q t o f) (r + 6) (aI G 8 g) = mW G M r s a p q t g f := by
  funext x
  by_cases h : x = r + 6
  · subst h
    rw [bku_at]
    exact mW_6.symm
  · rw [bku_ne h]
    unfold mW
    simp [h]
theorem mP_3 {v : Int32} : bku (mW G M r s a p q t o f) r (.inr (9, (mF r f).set 3 (.int v))) = mW G M r s a p q t o (upd f 3 v) := by
  funext x
  by_cases h : x = r
  · subst h
    rw [bku_at]
    exact (mW_0 (f := upd f 3 v)).symm
  · rw [bku_ne h]
    unfold mW
    simp [h]
theorem mP_5 {v : Int32} : bku (mW G M r s a p q t o f) r (.inr (9, (mF r f).set 5 (.int v))) = mW G M r s a p q t o (upd f 5 v) := by
  funext x
  by_cases h : x = r
  · subst h
    rw [bku_at]
    exact (mW_0 (f := upd f 5 v)).symm
  · rw [bku_ne h]
    unfold mW
    simp [h]
theorem mP_7 {v : Int32} : bku (mW G M r s a p q t o f) r (.inr (9, (mF r f).set 7 (.int v))) = mW G M r s a p q t o (upd f 7 v) := by
  funext x
  by_cases h : x = r
  · subst h
    rw [bku_at]
    exact (mW_0 (f := upd f 7 v)).symm
  · rw [bku_ne h]
    unfold mW
    simp [h]
theorem mP_9 {v : Int32} : bku (mW G M r s a p q t o f) r (.inr (9, (mF r f).set 9 (.int v))) = mW G M r s a p q t o (upd f 9 v) := by
  funext x
  by_cases h : x = r
  · subst h
    rw [bku_at]
    exact (mW_0 (f := upd f 9 v)).symm
  · rw [bku_ne h]
    unfold mW
    simp [h]
theorem mP_10 {v : Int32} : bku (mW G M r s a p q t o f) r (.inr (9, (mF r f).set 10 (.int v))) = mW G M r s a p q t o (upd f 10 v) := by
  funext x
  by_cases h : x = r
  · subst h
    rw [bku_at]
    exact (mW_0 (f := upd f 10 v)).symm
  · rw [bku_ne h]
    unfold mW
    simp [h]
theorem mP_11 {v : Int32} : bku (mW G M r s a p q t o f) r (.inr (9, (mF r f).set 11 (.int v))) = mW G M r s a p q t o (upd f 11 v) := by
  funext x
  by_cases h : x = r
  · subst h
    rw [bku_at]
    exact (mW_0 (f := upd f 11 v)).symm
  · rw [bku_ne h]
    unfold mW
    simp [h]
theorem mP_12 {v : Int32} : bku (mW G M r s a p q t o f) r (.inr (9, (mF r f).set 12 (.int v))) = mW G M r s a p q t o (upd f 12 v) := by
  funext x
  by_cases h : x = r
  · subst h
    rw [bku_at]
    exact (mW_0 (f := upd f 12 v)).symm
  · rw [bku_ne h]
    unfold mW
    simp [h]
theorem mP_13 {v : Int32} : bku (mW G M r s a p q t o f) r (.inr (9, (mF r f).set 13 (.int v))) = mW G M r s a p q t o (upd f 13 v) := by
  funext x
  by_cases h : x = r
  · subst h
    rw [bku_at]
    exact (mW_0 (f := upd f 13 v)).symm
  · rw [bku_ne h]
    unfold mW
    simp [h]
theorem mP_14 {v : Int32} : bku (mW G M r s a p q t o f) r (.inr (9, (mF r f).set 14 (.int v))) = mW G M r s a p q t o (upd f 14 v) := by
  funext x
  by_cases h : x = r
  · subst h
    rw [bku_at]
    exact (mW_0 (f := upd f 14 v)).symm
  · rw [bku_ne h]
    unfold mW
    simp [h]
end MW
theorem bkV.eq {E : bkEnv} {G : bkG} {Z : Nat → Prop} {k n : Nat} {M1 M2 : bkM} {pc : Nat} {L : List (Option Value)} {st : List Value} (h : M1 = M2) (kk : bkV E G Z k n M2 pc L st) : bkV E G Z k n M1 pc L st := by
  rw [h]
  exact kk
theorem bkV.st {E : bkEnv} {G : bkG} {Z : Nat → Prop} {k n : Nat} {M : bkM} {pc : Nat} {L : List (Option Value)} {s1 s2 : List Value} (h : s1 = s2) (kk : bkV E G Z k n M pc L s2) : bkV E G Z k n M pc L s1 := by
  rw [h]
  exact kk
theorem bk_rem {a d : Nat} (ha : a < 2 ^ 31) (h0 : 0 < d) (hd : d < 2 ^ 31) : jrem (nI a) (nI d) = nI (a % d) := pk_rem ha h0 hd
theorem bk_top {E : bkEnv} {G : bkG} {Z : Nat → Prop} {k n : Nat} {M : bkM} {pc : Nat} {L : List (Option Value)} {st : List Value} {x y : Int32} (h : x = y) (kk : bkV E G Z k n M pc L (.int y :: st)) : bkV E G Z k n M pc L (.int x :: st) := by
  rw [h]
  exact kk
