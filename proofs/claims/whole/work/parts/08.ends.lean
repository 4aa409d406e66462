/-! pictures of the objects: a function of places for what an end, a way, a world holds (the places of the reference's row) -/
abbrev cE (X : Nat → Int32) (k : Nat) : List Value := [.int (X 0), .int (X 1), .int (X 2), .int (X 3), .int (X 4), .int (X 5), .int (X 8), .int (X 9), .int (X 6), .int (X 7), .int (X 10), .ref k]
abbrev cT0 (t : Nat → Int32) : List Value := [.int (t 0), .int (t 1), .int (t 2), .int (t 3), .int (t 4)]
abbrev cT1 (t : Nat → Int32) : List Value := [.int (t 1), .int (t 2), .int (t 3), .int (t 4), .int (t 5)]
abbrev cT11 (t : Nat → Int32) : List Value := [.int (t 11), .int (t 12), .int (t 13), .int (t 14), .int (t 15)]
abbrev cY (Y : Nat → Int32) (k : Nat) : List Value := [.int (Y 9), .int (Y 0), .int (Y 6), .int (Y 7), .int (Y 8), .int (Y 10), .ref k]
abbrev cD (z : Nat → Int32) (a b c d : Nat) : List Value := [.ref a, .ref b, .ref c, .ref d, .int (z 0), .int (z 1), .int (z 2), .int (z 3)]
abbrev cX (z : Nat → Int32) (r : Nat) : List Value := [.ref r, .int (z 0)]
abbrev cS (z : Nat → Int32) (a b c : Nat) : List Value := [.ref a, .ref b, .ref c, .int (z 0)]
abbrev cQ (z : Nat → Int32) (a b c d e f g : Nat) (sd : Int64) : List Value := [.ref a, .ref b, .ref c, .ref d, .int (z 0), .ref e, .ref f, .ref g, .long sd]
abbrev cM (Z : Nat → Int32) (a b c d e f g h i j k : Nat) (sd : Int64) : List Value := [.int (Z 0), .ref a, .int (Z 2), .int (Z 3), .ref b, .ref c, .int (Z 6), .ref d, .ref e, .ref f, .int (Z 10), .ref g, .ref h, .int (Z 13), .ref i, .ref j, .ref k, .long sd, .int (Z 18), .int (Z 19), .int (Z 20), .int (Z 21)]
/-- the nine cells of a world -/
def cW (a : Nat → Nat) (g : Nat → Nat → Int32) : va_W := [(a 0, .inr (5, cD (g 4) (a 1) (a 3) (a 5) (a 7))), (a 1, .inr (0, cE (g 0) (a 2))), (a 2, .inr (2, cT11 (g 0))), (a 3, .inr (0, cE (g 1) (a 4))), (a 4, .inr (2, cT11 (g 1))), (a 5, .inr (4, cY (g 2) (a 6))), (a 6, .inr (2, cT1 (g 2))), (a 7, .inr (4, cY (g 3) (a 8))), (a 8, .inr (2, cT1 (g 3)))]
abbrev kg (a b c d e : Nat → Int32) : Nat → Nat → Int32 := fun i => match i with
  | 0 => a
  | 1 => b
  | 2 => c
  | 3 => d
  | _ => e
def bE (X : Nat → Int32) : Prop := kb (X 6) ∧ kb (X 7) ∧ kb (X 10) ∧ kb (X 15)
def bY (Y : Nat → Int32) : Prop := kb (Y 0) ∧ kb (Y 5) ∧ kb (Y 6) ∧ kb (Y 7) ∧ kb (Y 8) ∧ kb (Y 9)
def bW (g : Nat → Nat → Int32) : Prop := bE (g 0) ∧ bE (g 1) ∧ bY (g 2) ∧ bY (g 3)
def kRem (x y : Int32) : Int32 := x - x / y * y
def kRemL (x y : Int64) : Int64 := x - x / y * y
def kUshr (x y : Int32) : Int32 := (x.toUInt32 >>> (y.toUInt32 &&& Int32.toUInt32 31)).toInt32
def kShl (x y : Int32) : Int32 := x <<< (y &&& 31)
def kShr (x y : Int32) : Int32 := x >>> (y &&& 31)
def kUshrL (x : Int64) (y : Int32) : Int64 := (x.toUInt64 >>> (y.toInt64.toUInt64 &&& Int64.toUInt64 63)).toInt64
def kShlL (x : Int64) (y : Int32) : Int64 := x <<< (y.toInt64 &&& 63)
def kMax (x y : Int32) : Int32 := if x < y then y else x
def kMin (x y : Int32) : Int32 := if y < x then y else x
def kAbs (x : Int32) : Int32 := if 0 ≤ x then x else 0 - x
theorem kb_v {x : Int32} (h : kb x) : vp_nar .boolean x = x := by rcases h with rfl | rfl <;> rfl
theorem nX6_init : kN yX6_init 0 := ⟨by decide +kernel, by decide +kernel, by decide +kernel⟩
theorem nX3_init : kN yX3_init 0 := ⟨by decide +kernel, by decide +kernel, by decide +kernel⟩
theorem nX5_init : kN yX5_init 0 := ⟨by decide +kernel, by decide +kernel, by decide +kernel⟩
theorem nX0_init : kN yX0_init 0 := ⟨by decide +kernel, by decide +kernel, by decide +kernel⟩
theorem nX2_init : kN yX2_init 0 := ⟨by decide +kernel, by decide +kernel, by decide +kernel⟩
theorem nX4_init : kN yX4_init 0 := ⟨by decide +kernel, by decide +kernel, by decide +kernel⟩
theorem nX5_reset : kN yX5_reset 0 := ⟨by decide +kernel, by decide +kernel, by decide +kernel⟩
theorem nX0_reset : kN yX0_reset 0 := ⟨by decide +kernel, by decide +kernel, by decide +kernel⟩
theorem nX2_reset : kN yX2_reset 0 := ⟨by decide +kernel, by decide +kernel, by decide +kernel⟩
theorem nX4_reset : kN yX4_reset 0 := ⟨by decide +kernel, by decide +kernel, by decide +kernel⟩
theorem nX1_init : kN yX1_init 0 := ⟨by decide +kernel, by decide +kernel, by decide +kernel⟩
theorem nX6_write : kN yX6_write 1 := ⟨by decide +kernel, by decide +kernel, by decide +kernel⟩
theorem nX3_add : kN yX3_add 1 := ⟨by decide +kernel, by decide +kernel, by decide +kernel⟩
theorem nX6_wipe : kN yX6_wipe 0 := ⟨by decide +kernel, by decide +kernel, by decide +kernel⟩
theorem nX6_fault : kN yX6_fault 0 := ⟨by decide +kernel, by decide +kernel, by decide +kernel⟩
theorem nX3_faultPlace : kN yX3_faultPlace 0 := ⟨by decide +kernel, by decide +kernel, by decide +kernel⟩
theorem nX3_fitsHead : kN yX3_fitsHead 2 := ⟨by decide +kernel, by decide +kernel, by decide +kernel⟩
theorem nX3_fitsEvent : kN yX3_fitsEvent 2 := ⟨by decide +kernel, by decide +kernel, by decide +kernel⟩
theorem nX6_link : kN yX6_link 0 := ⟨by decide +kernel, by decide +kernel, by decide +kernel⟩
theorem nX3_layOut : kN yX3_layOut 1 := ⟨by decide +kernel, by decide +kernel, by decide +kernel⟩
theorem nX5_endOf : kN yX5_endOf 1 := ⟨by decide +kernel, by decide +kernel, by decide +kernel⟩
theorem nX0_takeSetting : kN yX0_takeSetting 2 := ⟨by decide +kernel, by decide +kernel, by decide +kernel⟩
theorem nX0_turnDemand : kN yX0_turnDemand 0 := ⟨by decide +kernel, by decide +kernel, by decide +kernel⟩
theorem nX5_wayOf : kN yX5_wayOf 1 := ⟨by decide +kernel, by decide +kernel, by decide +kernel⟩
theorem nX4_turnOver : kN yX4_turnOver 0 := ⟨by decide +kernel, by decide +kernel, by decide +kernel⟩
theorem nX5_run : kN yX5_run 1 := ⟨by decide +kernel, by decide +kernel, by decide +kernel⟩
theorem nX5_tick : kN yX5_tick 0 := ⟨by decide +kernel, by decide +kernel, by decide +kernel⟩
theorem nX0_listen : kN yX0_listen 1 := ⟨by decide +kernel, by decide +kernel, by decide +kernel⟩
theorem nX4_takeOff : kN yX4_takeOff 0 := ⟨by decide +kernel, by decide +kernel, by decide +kernel⟩
theorem nX2_copyFrom : kN yX2_copyFrom 1 := ⟨by decide +kernel, by decide +kernel, by decide +kernel⟩
theorem nX0_fall : kN yX0_fall 0 := ⟨by decide +kernel, by decide +kernel, by decide +kernel⟩
theorem nX0_endPoll : kN yX0_endPoll 0 := ⟨by decide +kernel, by decide +kernel, by decide +kernel⟩
theorem nX0_moodByWhatIsKnown : kN yX0_moodByWhatIsKnown 0 := ⟨by decide +kernel, by decide +kernel, by decide +kernel⟩
theorem nX0_fallIfSilent : kN yX0_fallIfSilent 0 := ⟨by decide +kernel, by decide +kernel, by decide +kernel⟩
theorem nX0_trusts : kN yX0_trusts 0 := ⟨by decide +kernel, by decide +kernel, by decide +kernel⟩
theorem nX0_isBothUp : kN yX0_isBothUp 0 := ⟨by decide +kernel, by decide +kernel, by decide +kernel⟩
theorem nX0_limit : kN yX0_limit 0 := ⟨by decide +kernel, by decide +kernel, by decide +kernel⟩
theorem nX5_sendIfDue : kN yX5_sendIfDue 2 := ⟨by decide +kernel, by decide +kernel, by decide +kernel⟩
theorem nX0_isStill : kN yX0_isStill 0 := ⟨by decide +kernel, by decide +kernel, by decide +kernel⟩
theorem nX4_put : kN yX4_put 2 := ⟨by decide +kernel, by decide +kernel, by decide +kernel⟩
theorem nX2_describe : kN yX2_describe 1 := ⟨by decide +kernel, by decide +kernel, by decide +kernel⟩
theorem nX0_pace : kN yX0_pace 0 := ⟨by decide +kernel, by decide +kernel, by decide +kernel⟩
theorem nX5_areBothUp : kN yX5_areBothUp 0 := ⟨by decide +kernel, by decide +kernel, by decide +kernel⟩
theorem nX6_end : kN yX6_end 2 := ⟨by decide +kernel, by decide +kernel, by decide +kernel⟩
theorem nX6_isZeroOrOne : kN yX6_isZeroOrOne 1 := ⟨by decide +kernel, by decide +kernel, by decide +kernel⟩
theorem nX6_noticedBy : kN yX6_noticedBy 1 := ⟨by decide +kernel, by decide +kernel, by decide +kernel⟩
theorem nX5_copyFrom : kN yX5_copyFrom 1 := ⟨by decide +kernel, by decide +kernel, by decide +kernel⟩
theorem nX0_copyFrom : kN yX0_copyFrom 1 := ⟨by decide +kernel, by decide +kernel, by decide +kernel⟩
theorem nX4_copyFrom : kN yX4_copyFrom 1 := ⟨by decide +kernel, by decide +kernel, by decide +kernel⟩
theorem nX6_enduredBy : kN yX6_enduredBy 1 := ⟨by decide +kernel, by decide +kernel, by decide +kernel⟩
theorem nX6_endures : kN yX6_endures 2 := ⟨by decide +kernel, by decide +kernel, by decide +kernel⟩
theorem nX5_wayTo : kN yX5_wayTo 1 := ⟨by decide +kernel, by decide +kernel, by decide +kernel⟩
theorem nX0_numberOf : kN yX0_numberOf 1 := ⟨by decide +kernel, by decide +kernel, by decide +kernel⟩
theorem nX6_oneIf : kN yX6_oneIf 1 := ⟨by decide +kernel, by decide +kernel, by decide +kernel⟩
theorem nX6_known : kN yX6_known 2 := ⟨by decide +kernel, by decide +kernel, by decide +kernel⟩
theorem nX2_numberOf : kN yX2_numberOf 1 := ⟨by decide +kernel, by decide +kernel, by decide +kernel⟩
theorem nX6_way : kN yX6_way 2 := ⟨by decide +kernel, by decide +kernel, by decide +kernel⟩
theorem nX6_pass : kN yX6_pass 1 := ⟨by decide +kernel, by decide +kernel, by decide +kernel⟩
theorem nX6_remember : kN yX6_remember 0 := ⟨by decide +kernel, by decide +kernel, by decide +kernel⟩
theorem nX6_forgetFirstAct : kN yX6_forgetFirstAct 0 := ⟨by decide +kernel, by decide +kernel, by decide +kernel⟩
theorem nX6_tell : kN yX6_tell 3 := ⟨by decide +kernel, by decide +kernel, by decide +kernel⟩
theorem nX6_demand : kN yX6_demand 1 := ⟨by decide +kernel, by decide +kernel, by decide +kernel⟩
theorem nX6_turn : kN yX6_turn 1 := ⟨by decide +kernel, by decide +kernel, by decide +kernel⟩
theorem nX6_poll : kN yX6_poll 1 := ⟨by decide +kernel, by decide +kernel, by decide +kernel⟩
theorem nX0_canBePolled : kN yX0_canBePolled 0 := ⟨by decide +kernel, by decide +kernel, by decide +kernel⟩
theorem nX0_startPoll : kN yX0_startPoll 0 := ⟨by decide +kernel, by decide +kernel, by decide +kernel⟩
theorem nX6_undo : kN yX6_undo 0 := ⟨by decide +kernel, by decide +kernel, by decide +kernel⟩
theorem nX6_ahead : kN yX6_ahead 2 := ⟨by decide +kernel, by decide +kernel, by decide +kernel⟩
theorem nX6_letters : kN yX6_letters 1 := ⟨by decide +kernel, by decide +kernel, by decide +kernel⟩
theorem nX6_judge : kN yX6_judge 2 := ⟨by decide +kernel, by decide +kernel, by decide +kernel⟩
theorem nX6_withoutLast : kN yX6_withoutLast 2 := ⟨by decide +kernel, by decide +kernel, by decide +kernel⟩
theorem nX6_canBe : kN yX6_canBe 1 := ⟨by decide +kernel, by decide +kernel, by decide +kernel⟩
theorem nX6_canBeDone : kN yX6_canBeDone 2 := ⟨by decide +kernel, by decide +kernel, by decide +kernel⟩
theorem nX6_isSo : kN yX6_isSo 3 := ⟨by decide +kernel, by decide +kernel, by decide +kernel⟩
theorem nX6_see : kN yX6_see 3 := ⟨by decide +kernel, by decide +kernel, by decide +kernel⟩
theorem nX1_add : kN yX1_add 3 := ⟨by decide +kernel, by decide +kernel, by decide +kernel⟩
theorem nX6_unsee : kN yX6_unsee 0 := ⟨by decide +kernel, by decide +kernel, by decide +kernel⟩
theorem nX6_which : kN yX6_which 0 := ⟨by decide +kernel, by decide +kernel, by decide +kernel⟩
theorem nX1_holdIn : kN yX1_holdIn 1 := ⟨by decide +kernel, by decide +kernel, by decide +kernel⟩
theorem nX1_lastTick : kN yX1_lastTick 0 := ⟨by decide +kernel, by decide +kernel, by decide +kernel⟩
theorem nX1_holdAt : kN yX1_holdAt 2 := ⟨by decide +kernel, by decide +kernel, by decide +kernel⟩
theorem nX6_share : kN yX6_share 2 := ⟨by decide +kernel, by decide +kernel, by decide +kernel⟩
theorem nX6_ordersBehind : kN yX6_ordersBehind 1 := ⟨by decide +kernel, by decide +kernel, by decide +kernel⟩
theorem nJ6_bitCount_0f7a4 : kN yJ6_bitCount_0f7a4 1 := ⟨by decide +kernel, by decide +kernel, by decide +kernel⟩
theorem nX6_sentWith : kN yX6_sentWith 1 := ⟨by decide +kernel, by decide +kernel, by decide +kernel⟩
theorem nX0_leaveOnly : kN yX0_leaveOnly 2 := ⟨by decide +kernel, by decide +kernel, by decide +kernel⟩
theorem nX6_fraction : kN yX6_fraction 3 := ⟨by decide +kernel, by decide +kernel, by decide +kernel⟩
theorem nX6_greatestDivisor : kN yX6_greatestDivisor 2 := ⟨by decide +kernel, by decide +kernel, by decide +kernel⟩
theorem nX6_luck : kN yX6_luck 3 := ⟨by decide +kernel, by decide +kernel, by decide +kernel⟩
theorem nX6_weightOf : kN yX6_weightOf 3 := ⟨by decide +kernel, by decide +kernel, by decide +kernel⟩
theorem nX6_power : kN yX6_power 2 := ⟨by decide +kernel, by decide +kernel, by decide +kernel⟩
theorem nX6_areUpWithLost : kN yX6_areUpWithLost 1 := ⟨by decide +kernel, by decide +kernel, by decide +kernel⟩
theorem nX6_seed : kN yX6_seed 1 := ⟨by decide +kernel, by decide +kernel, by decide +kernel⟩
theorem nX6_drawn : kN yX6_drawn 1 := ⟨by decide +kernel, by decide +kernel, by decide +kernel⟩
theorem nX6_keep : kN yX6_keep 1 := ⟨by decide +kernel, by decide +kernel, by decide +kernel⟩
theorem nX6_again : kN yX6_again 1 := ⟨by decide +kernel, by decide +kernel, by decide +kernel⟩
theorem nX6_count : kN yX6_count 1 := ⟨by decide +kernel, by decide +kernel, by decide +kernel⟩
theorem nX7_init : kN yX7_init 0 := ⟨by decide +kernel, by decide +kernel, by decide +kernel⟩
theorem nX7_layFirst : kN yX7_layFirst 1 := ⟨by decide +kernel, by decide +kernel, by decide +kernel⟩
theorem nX7_write : kN yX7_write 1 := ⟨by decide +kernel, by decide +kernel, by decide +kernel⟩
theorem nX7_in : kN yX7_in 3 := ⟨by decide +kernel, by decide +kernel, by decide +kernel⟩
theorem nX7_wipe : kN yX7_wipe 0 := ⟨by decide +kernel, by decide +kernel, by decide +kernel⟩
theorem nX7_fault : kN yX7_fault 0 := ⟨by decide +kernel, by decide +kernel, by decide +kernel⟩
theorem nX7_readLink : kN yX7_readLink 0 := ⟨by decide +kernel, by decide +kernel, by decide +kernel⟩
theorem nX7_figure : kN yX7_figure 2 := ⟨by decide +kernel, by decide +kernel, by decide +kernel⟩
theorem nX7_useTold : kN yX7_useTold 2 := ⟨by decide +kernel, by decide +kernel, by decide +kernel⟩
theorem nX7_readEvent : kN yX7_readEvent 0 := ⟨by decide +kernel, by decide +kernel, by decide +kernel⟩
theorem nX7_link : kN yX7_link 0 := ⟨by decide +kernel, by decide +kernel, by decide +kernel⟩
theorem nX7_lay : kN yX7_lay 2 := ⟨by decide +kernel, by decide +kernel, by decide +kernel⟩
theorem nX7_layTrial : kN yX7_layTrial 0 := ⟨by decide +kernel, by decide +kernel, by decide +kernel⟩
theorem nX7_goFor : kN yX7_goFor 2 := ⟨by decide +kernel, by decide +kernel, by decide +kernel⟩
theorem nX7_tick : kN yX7_tick 1 := ⟨by decide +kernel, by decide +kernel, by decide +kernel⟩
theorem nX7_take : kN yX7_take 2 := ⟨by decide +kernel, by decide +kernel, by decide +kernel⟩
theorem nX7_hear : kN yX7_hear 3 := ⟨by decide +kernel, by decide +kernel, by decide +kernel⟩
theorem nX7_fall : kN yX7_fall 2 := ⟨by decide +kernel, by decide +kernel, by decide +kernel⟩
theorem nX7_trusts : kN yX7_trusts 2 := ⟨by decide +kernel, by decide +kernel, by decide +kernel⟩
theorem nX7_bothUp : kN yX7_bothUp 2 := ⟨by decide +kernel, by decide +kernel, by decide +kernel⟩
theorem nX7_limitOn : kN yX7_limitOn 2 := ⟨by decide +kernel, by decide +kernel, by decide +kernel⟩
theorem nX7_max : kN yX7_max 2 := ⟨by decide +kernel, by decide +kernel, by decide +kernel⟩
theorem nX7_isStill : kN yX7_isStill 2 := ⟨by decide +kernel, by decide +kernel, by decide +kernel⟩
theorem nX7_sendOn : kN yX7_sendOn 2 := ⟨by decide +kernel, by decide +kernel, by decide +kernel⟩
theorem nX7_has : kN yX7_has 2 := ⟨by decide +kernel, by decide +kernel, by decide +kernel⟩
theorem nX7_paceOn : kN yX7_paceOn 2 := ⟨by decide +kernel, by decide +kernel, by decide +kernel⟩
theorem nX7_end : kN yX7_end 2 := ⟨by decide +kernel, by decide +kernel, by decide +kernel⟩
theorem nX7_noEnd : kN yX7_noEnd 1 := ⟨by decide +kernel, by decide +kernel, by decide +kernel⟩
theorem nX7_noticed : kN yX7_noticed 1 := ⟨by decide +kernel, by decide +kernel, by decide +kernel⟩
theorem nX7_endured : kN yX7_endured 1 := ⟨by decide +kernel, by decide +kernel, by decide +kernel⟩
theorem nX7_endures : kN yX7_endures 2 := ⟨by decide +kernel, by decide +kernel, by decide +kernel⟩
theorem nX7_known : kN yX7_known 2 := ⟨by decide +kernel, by decide +kernel, by decide +kernel⟩
theorem nX7_way : kN yX7_way 2 := ⟨by decide +kernel, by decide +kernel, by decide +kernel⟩
theorem nX7_pass : kN yX7_pass 1 := ⟨by decide +kernel, by decide +kernel, by decide +kernel⟩
theorem nX7_note : kN yX7_note 0 := ⟨by decide +kernel, by decide +kernel, by decide +kernel⟩
theorem nX7_tell : kN yX7_tell 3 := ⟨by decide +kernel, by decide +kernel, by decide +kernel⟩
theorem nX7_setTx : kN yX7_setTx 3 := ⟨by decide +kernel, by decide +kernel, by decide +kernel⟩
theorem nX7_min : kN yX7_min 2 := ⟨by decide +kernel, by decide +kernel, by decide +kernel⟩
theorem nX7_setRx : kN yX7_setRx 3 := ⟨by decide +kernel, by decide +kernel, by decide +kernel⟩
theorem nX7_demand : kN yX7_demand 1 := ⟨by decide +kernel, by decide +kernel, by decide +kernel⟩
theorem nX7_turn : kN yX7_turn 1 := ⟨by decide +kernel, by decide +kernel, by decide +kernel⟩
theorem nX7_poll : kN yX7_poll 1 := ⟨by decide +kernel, by decide +kernel, by decide +kernel⟩
theorem nX7_mayPoll : kN yX7_mayPoll 2 := ⟨by decide +kernel, by decide +kernel, by decide +kernel⟩
theorem nX7_pollOn : kN yX7_pollOn 2 := ⟨by decide +kernel, by decide +kernel, by decide +kernel⟩
theorem nX7_undo : kN yX7_undo 0 := ⟨by decide +kernel, by decide +kernel, by decide +kernel⟩
theorem nX7_ahead : kN yX7_ahead 2 := ⟨by decide +kernel, by decide +kernel, by decide +kernel⟩
theorem nX7_letters : kN yX7_letters 1 := ⟨by decide +kernel, by decide +kernel, by decide +kernel⟩
theorem nX7_judge : kN yX7_judge 2 := ⟨by decide +kernel, by decide +kernel, by decide +kernel⟩
theorem nX7_longPower : kN yX7_longPower 2 := ⟨by decide +kernel, by decide +kernel, by decide +kernel⟩
theorem nX7_does : kN yX7_does 3 := ⟨by decide +kernel, by decide +kernel, by decide +kernel⟩
theorem nX7_see : kN yX7_see 3 := ⟨by decide +kernel, by decide +kernel, by decide +kernel⟩
theorem nX7_unsee : kN yX7_unsee 0 := ⟨by decide +kernel, by decide +kernel, by decide +kernel⟩
theorem nX7_which : kN yX7_which 0 := ⟨by decide +kernel, by decide +kernel, by decide +kernel⟩
theorem nX7_isSeen : kN yX7_isSeen 2 := ⟨by decide +kernel, by decide +kernel, by decide +kernel⟩
theorem nX7_share : kN yX7_share 2 := ⟨by decide +kernel, by decide +kernel, by decide +kernel⟩
theorem nX7_ones : kN yX7_ones 1 := ⟨by decide +kernel, by decide +kernel, by decide +kernel⟩
theorem nX7_factorial : kN yX7_factorial 1 := ⟨by decide +kernel, by decide +kernel, by decide +kernel⟩
theorem nX7_sentBy : kN yX7_sentBy 1 := ⟨by decide +kernel, by decide +kernel, by decide +kernel⟩
theorem nX7_fraction : kN yX7_fraction 3 := ⟨by decide +kernel, by decide +kernel, by decide +kernel⟩
theorem nX7_divisor : kN yX7_divisor 2 := ⟨by decide +kernel, by decide +kernel, by decide +kernel⟩
theorem nX7_luck : kN yX7_luck 3 := ⟨by decide +kernel, by decide +kernel, by decide +kernel⟩
theorem nX7_power : kN yX7_power 2 := ⟨by decide +kernel, by decide +kernel, by decide +kernel⟩
theorem nX7_seed : kN yX7_seed 1 := ⟨by decide +kernel, by decide +kernel, by decide +kernel⟩
theorem nX7_drawn : kN yX7_drawn 1 := ⟨by decide +kernel, by decide +kernel, by decide +kernel⟩
theorem nX7_keep : kN yX7_keep 1 := ⟨by decide +kernel, by decide +kernel, by decide +kernel⟩
theorem nX7_again : kN yX7_again 1 := ⟨by decide +kernel, by decide +kernel, by decide +kernel⟩
theorem nX7_count : kN yX7_count 1 := ⟨by decide +kernel, by decide +kernel, by decide +kernel⟩
def r_X6_oneIf (p0 : Int32) : Int32 := if p0 = 0 then 0 else 1
set_option maxHeartbeats 4000000 in
set_option maxRecDepth 100000 in
theorem c_X6_oneIf (l : Launch) (G : kG) (p0 : Int32) : cG l G yX6_oneIf cX6_oneIf 1 (some .int) 0 [.int p0] ([]) (qI G (fun (r : Int32) (_ : Unit) => r = r_X6_oneIf p0) (fun _ => [])) := by
  refine kintro (by decide) (Nat.le_of_ble_eq_true rfl) ?_
  intro p e s m args below meth c A ls kx hK hP hD hS hA hl
  have kx : kX p s m args meth c cX6_oneIf 1 (some .int) RX6 := kx
  have hx := kx.1
  have hb := kx.2.1
  have hown := kx.2.2.2.2.1
  have ht := kx.2.2.2.2.2.2
  have hl : lv_has ls 1 [(0, .int p0)] := hl
  refine lv_iload_n hx hb dX6_oneIf_0 rfl (lv_at hl 0 rfl) ?_
  refine lv_if_eq (x := p0) (tgt := 8) hx hb dX6_oneIf_1 (by decide) (fun (c1 : p0 = 0) => ?_) (fun (c1 : ¬ (p0 = 0)) => ?_)
  · skip
    refine lv_iconst (v := 0) hx hb dX6_oneIf_8 (by decide) ?_
    have er : r_X6_oneIf p0 = 0 := by rw [r_X6_oneIf, if_pos c1]
    exact k_iret kx hK hP hD hS (u := ()) rfl er.symm dX6_oneIf_9
  · skip
    refine lv_iconst (v := 1) hx hb dX6_oneIf_4 (by decide) ?_
    refine lv_goto (tgt := 9) hx hb dX6_oneIf_5 (by decide) ?_
    have er : r_X6_oneIf p0 = 1 := by rw [r_X6_oneIf, if_neg c1]
    exact k_iret kx hK hP hD hS (u := ()) rfl er.symm dX6_oneIf_9

def r_X6_isZeroOrOne (p0 : Int32) : Int32 := if p0 = 0 then 1 else if p0 = 1 then 1 else 0
set_option maxHeartbeats 4000000 in
set_option maxRecDepth 100000 in
theorem c_X6_isZeroOrOne (l : Launch) (G : kG) (p0 : Int32) : cG l G yX6_isZeroOrOne cX6_isZeroOrOne 1 (some .boolean) 0 [.int p0] ([]) (qI G (fun (r : Int32) (_ : Unit) => r = r_X6_isZeroOrOne p0) (fun _ => [])) := by
  refine kintro (by decide) (Nat.le_of_ble_eq_true rfl) ?_
  intro p e s m args below meth c A ls kx hK hP hD hS hA hl
  have kx : kX p s m args meth c cX6_isZeroOrOne 1 (some .boolean) RX6 := kx
  have hx := kx.1
  have hb := kx.2.1
  have hown := kx.2.2.2.2.1
  have ht := kx.2.2.2.2.2.2
  have hl : lv_has ls 1 [(0, .int p0)] := hl
  refine lv_iload_n hx hb dX6_isZeroOrOne_0 rfl (lv_at hl 0 rfl) ?_
  refine lv_if_eq (x := p0) (tgt := 9) hx hb dX6_isZeroOrOne_1 (by decide) (fun (c1 : p0 = 0) => ?_) (fun (c1 : ¬ (p0 = 0)) => ?_)
  · skip
    refine lv_iconst (v := 1) hx hb dX6_isZeroOrOne_9 (by decide) ?_
    refine lv_goto (tgt := 14) hx hb dX6_isZeroOrOne_10 (by decide) ?_
    have er : r_X6_isZeroOrOne p0 = 1 := by rw [r_X6_isZeroOrOne, if_pos c1]
    exact k_zret kx hK hP hD hS (u := ()) rfl er.symm kb1 dX6_isZeroOrOne_14
  · skip
    refine lv_iload_n hx hb dX6_isZeroOrOne_4 rfl (lv_at hl 0 rfl) ?_
    refine lv_iconst (v := 1) hx hb dX6_isZeroOrOne_5 (by decide) ?_
    refine lv_icmp_ne (x := p0) (y := 1) (tgt := 13) hx hb dX6_isZeroOrOne_6 (by decide) (fun (c2 : ¬ (p0 = 1)) => ?_) (fun (c2 : p0 = 1) => ?_)
    · skip
      refine lv_iconst (v := 0) hx hb dX6_isZeroOrOne_13 (by decide) ?_
      have er : r_X6_isZeroOrOne p0 = 0 := by rw [r_X6_isZeroOrOne, if_neg c1, if_neg c2]
      exact k_zret kx hK hP hD hS (u := ()) rfl er.symm kb0 dX6_isZeroOrOne_14
    · skip
      refine lv_iconst (v := 1) hx hb dX6_isZeroOrOne_9 (by decide) ?_
      refine lv_goto (tgt := 14) hx hb dX6_isZeroOrOne_10 (by decide) ?_
      have er : r_X6_isZeroOrOne p0 = 1 := by rw [r_X6_isZeroOrOne, if_neg c1, if_pos c2]
      exact k_zret kx hK hP hD hS (u := ()) rfl er.symm kb1 dX6_isZeroOrOne_14
theorem kbr_X6_isZeroOrOne (p0 : Int32) : kb (r_X6_isZeroOrOne p0) := by
  unfold r_X6_isZeroOrOne
  repeat' split
  all_goals first | exact kb0 | exact kb1

set_option maxHeartbeats 4000000 in
set_option maxRecDepth 100000 in
theorem c_X2_reset (l : Launch) (G : kG) (t : Nat → Int32) (h0 : Nat) : cG l G yX2_reset cX2_reset 1 none 0 [.ref h0] ([(h0, .inr (2, cT0 t))]) (qV G (fun _ : Unit => True) (fun _ => [(h0, .inr (2, cT0 (upd (upd (upd (upd (upd t 0 0) 1 1) 2 1) 3 1) 4 0)))])) := by
  refine kintro (by decide) (Nat.le_of_ble_eq_true rfl) ?_
  intro p e s m args below meth c A ls kx hK hP hD hS hA hl
  have kx : kX p s m args meth c cX2_reset 1 none RX2 := kx
  have hx := kx.1
  have hb := kx.2.1
  have hown := kx.2.2.2.2.1
  have ht := kx.2.2.2.2.2.2
  have hl : lv_has ls 1 [(0, .ref h0)] := hl
  refine lv_aload_n hx hb dX2_reset_0 rfl (lv_at hl 0 rfl) ?_
  refine lv_iconst (v := 0) hx hb dX2_reset_1 (by decide) ?_
  refine va_put (ci := 2) (v := .int 0) (ty := .int) (C := RX2) (T := TX2) (N := 5) hx hb ht inX2 tyX2 tyX2_ok nmX2 hown hK.1 hP hD hS 0 rfl rfl 0 (by decide) (ht _ q_80) (fun _ h9 => h9) rfl (by decide +kernel) rfl rfl (Nat.le_of_ble_eq_true rfl) dX2_reset_2 (fun H1 locs1 hP1 hD1 hS1 => ?_)
  have hP2 : va_P G.1 vwCl ([(h0, .inr (2, cT0 (upd t 0 0)))]) H1 := hP1
  have hD3 : va_D A ([(h0, .inr (2, cT0 (upd t 0 0)))]) := hD1
  refine lv_aload_n hx hb dX2_reset_5 rfl (lv_at hl 0 rfl) ?_
  refine lv_iconst (v := 1) hx hb dX2_reset_6 (by decide) ?_
  refine va_put (ci := 2) (v := .int 1) (ty := .int) (C := RX2) (T := TX2) (N := 5) hx hb ht inX2 tyX2 tyX2_ok nmX2 hown hK.1 hP2 hD3 hS1 0 rfl rfl 1 (by decide) (ht _ q_82) (fun _ h9 => h9) rfl (by decide +kernel) rfl rfl (Nat.le_of_ble_eq_true rfl) dX2_reset_7 (fun H4 locs4 hP4 hD4 hS4 => ?_)
  have hP5 : va_P G.1 vwCl ([(h0, .inr (2, cT0 (upd (upd t 0 0) 1 1)))]) H4 := hP4
  have hD6 : va_D A ([(h0, .inr (2, cT0 (upd (upd t 0 0) 1 1)))]) := hD4
  refine lv_aload_n hx hb dX2_reset_10 rfl (lv_at hl 0 rfl) ?_
  refine lv_iconst (v := 1) hx hb dX2_reset_11 (by decide) ?_
  refine va_put (ci := 2) (v := .int 1) (ty := .int) (C := RX2) (T := TX2) (N := 5) hx hb ht inX2 tyX2 tyX2_ok nmX2 hown hK.1 hP5 hD6 hS4 0 rfl rfl 2 (by decide) (ht _ q_84) (fun _ h9 => h9) rfl (by decide +kernel) rfl rfl (Nat.le_of_ble_eq_true rfl) dX2_reset_12 (fun H7 locs7 hP7 hD7 hS7 => ?_)
  have hP8 : va_P G.1 vwCl ([(h0, .inr (2, cT0 (upd (upd (upd t 0 0) 1 1) 2 1)))]) H7 := hP7
  have hD9 : va_D A ([(h0, .inr (2, cT0 (upd (upd (upd t 0 0) 1 1) 2 1)))]) := hD7
  refine lv_aload_n hx hb dX2_reset_15 rfl (lv_at hl 0 rfl) ?_
  refine lv_iconst (v := 1) hx hb dX2_reset_16 (by decide) ?_
  refine va_put (ci := 2) (v := .int 1) (ty := .int) (C := RX2) (T := TX2) (N := 5) hx hb ht inX2 tyX2 tyX2_ok nmX2 hown hK.1 hP8 hD9 hS7 0 rfl rfl 3 (by decide) (ht _ q_86) (fun _ h9 => h9) rfl (by decide +kernel) rfl rfl (Nat.le_of_ble_eq_true rfl) dX2_reset_17 (fun H10 locs10 hP10 hD10 hS10 => ?_)
  have hP11 : va_P G.1 vwCl ([(h0, .inr (2, cT0 (upd (upd (upd (upd t 0 0) 1 1) 2 1) 3 1)))]) H10 := hP10
  have hD12 : va_D A ([(h0, .inr (2, cT0 (upd (upd (upd (upd t 0 0) 1 1) 2 1) 3 1)))]) := hD10
  refine lv_aload_n hx hb dX2_reset_20 rfl (lv_at hl 0 rfl) ?_
  refine lv_iconst (v := 0) hx hb dX2_reset_21 (by decide) ?_
  refine va_put (ci := 2) (v := .int 0) (ty := .boolean) (C := RX2) (T := TX2) (N := 5) hx hb ht inX2 tyX2 tyX2_ok nmX2 hown hK.1 hP11 hD12 hS10 0 rfl rfl 4 (by decide) (ht _ q_88) (fun _ h9 => h9) rfl (by decide +kernel) (kb_n kb0) (kb_f kb0) (Nat.le_of_ble_eq_true rfl) dX2_reset_22 (fun H13 locs13 hP13 hD13 hS13 => ?_)
  have hP14 : va_P G.1 vwCl ([(h0, .inr (2, cT0 (upd (upd (upd (upd (upd t 0 0) 1 1) 2 1) 3 1) 4 0)))]) H13 := hP13
  have hD15 : va_D A ([(h0, .inr (2, cT0 (upd (upd (upd (upd (upd t 0 0) 1 1) 2 1) 3 1) 4 0)))]) := hD13
  exact k_vret kx hK hP14 hD15 hS13 (u := ()) rfl trivial dX2_reset_25

set_option maxHeartbeats 4000000 in
set_option maxRecDepth 100000 in
theorem c_X2_copyFrom (l : Launch) (G : kG) (t : Nat → Int32) (o : Nat → Int32) (h0 : Nat) (h1 : Nat) (ho : kb (o 4)) : cG l G yX2_copyFrom cX2_copyFrom 2 none 0 [.ref h0, .ref h1] ([(h0, .inr (2, cT0 t)), (h1, .inr (2, cT0 o))]) (qV G (fun _ : Unit => True) (fun _ => [(h0, .inr (2, cT0 o)), (h1, .inr (2, cT0 o))])) := by
  refine kintro (by decide) (Nat.le_of_ble_eq_true rfl) ?_
  intro p e s m args below meth c A ls kx hK hP hD hS hA hl
  have kx : kX p s m args meth c cX2_copyFrom 2 none RX2 := kx
  have hx := kx.1
  have hb := kx.2.1
  have hown := kx.2.2.2.2.1
  have ht := kx.2.2.2.2.2.2
  have hl : lv_has ls 2 [(0, .ref h0), (1, .ref h1)] := hl
  refine lv_aload_n hx hb dX2_copyFrom_0 rfl (lv_at hl 0 rfl) ?_
  refine lv_aload_n hx hb dX2_copyFrom_1 rfl (lv_at hl 1 rfl) ?_
  refine va_get (ci := 2) (v := .int (o 0)) (C := RX2) (T := TX2) (N := 5) hx hb ht inX2 hown hK.1 hP 1 rfl rfl 0 (by decide) (ht _ q_80) (fun _ h9 => h9) rfl dX2_copyFrom_2 ?_
  refine va_put (ci := 2) (v := .int (o 0)) (ty := .int) (C := RX2) (T := TX2) (N := 5) hx hb ht inX2 tyX2 tyX2_ok nmX2 hown hK.1 hP hD hS 0 rfl rfl 0 (by decide) (ht _ q_80) (fun _ h9 => h9) rfl (by decide +kernel) rfl rfl (Nat.le_of_ble_eq_true rfl) dX2_copyFrom_5 (fun H1 locs1 hP1 hD1 hS1 => ?_)
  have hP2 : va_P G.1 vwCl ([(h0, .inr (2, cT0 (upd t 0 (o 0)))), (h1, .inr (2, cT0 o))]) H1 := hP1
  have hD3 : va_D A ([(h0, .inr (2, cT0 (upd t 0 (o 0)))), (h1, .inr (2, cT0 o))]) := hD1
  refine lv_aload_n hx hb dX2_copyFrom_8 rfl (lv_at hl 0 rfl) ?_
  refine lv_aload_n hx hb dX2_copyFrom_9 rfl (lv_at hl 1 rfl) ?_
  refine va_get (ci := 2) (v := .int (o 1)) (C := RX2) (T := TX2) (N := 5) hx hb ht inX2 hown hK.1 hP2 1 rfl rfl 1 (by decide) (ht _ q_82) (fun _ h9 => h9) rfl dX2_copyFrom_10 ?_
  refine va_put (ci := 2) (v := .int (o 1)) (ty := .int) (C := RX2) (T := TX2) (N := 5) hx hb ht inX2 tyX2 tyX2_ok nmX2 hown hK.1 hP2 hD3 hS1 0 rfl rfl 1 (by decide) (ht _ q_82) (fun _ h9 => h9) rfl (by decide +kernel) rfl rfl (Nat.le_of_ble_eq_true rfl) dX2_copyFrom_13 (fun H4 locs4 hP4 hD4 hS4 => ?_)
  have hP5 : va_P G.1 vwCl ([(h0, .inr (2, cT0 (upd (upd t 0 (o 0)) 1 (o 1)))), (h1, .inr (2, cT0 o))]) H4 := hP4
  have hD6 : va_D A ([(h0, .inr (2, cT0 (upd (upd t 0 (o 0)) 1 (o 1)))), (h1, .inr (2, cT0 o))]) := hD4
  refine lv_aload_n hx hb dX2_copyFrom_16 rfl (lv_at hl 0 rfl) ?_
  refine lv_aload_n hx hb dX2_copyFrom_17 rfl (lv_at hl 1 rfl) ?_
  refine va_get (ci := 2) (v := .int (o 2)) (C := RX2) (T := TX2) (N := 5) hx hb ht inX2 hown hK.1 hP5 1 rfl rfl 2 (by decide) (ht _ q_84) (fun _ h9 => h9) rfl dX2_copyFrom_18 ?_
  refine va_put (ci := 2) (v := .int (o 2)) (ty := .int) (C := RX2) (T := TX2) (N := 5) hx hb ht inX2 tyX2 tyX2_ok nmX2 hown hK.1 hP5 hD6 hS4 0 rfl rfl 2 (by decide) (ht _ q_84) (fun _ h9 => h9) rfl (by decide +kernel) rfl rfl (Nat.le_of_ble_eq_true rfl) dX2_copyFrom_21 (fun H7 locs7 hP7 hD7 hS7 => ?_)
  have hP8 : va_P G.1 vwCl ([(h0, .inr (2, cT0 (upd (upd (upd t 0 (o 0)) 1 (o 1)) 2 (o 2)))), (h1, .inr (2, cT0 o))]) H7 := hP7
  have hD9 : va_D A ([(h0, .inr (2, cT0 (upd (upd (upd t 0 (o 0)) 1 (o 1)) 2 (o 2)))), (h1, .inr (2, cT0 o))]) := hD7
  refine lv_aload_n hx hb dX2_copyFrom_24 rfl (lv_at hl 0 rfl) ?_
  refine lv_aload_n hx hb dX2_copyFrom_25 rfl (lv_at hl 1 rfl) ?_
  refine va_get (ci := 2) (v := .int (o 3)) (C := RX2) (T := TX2) (N := 5) hx hb ht inX2 hown hK.1 hP8 1 rfl rfl 3 (by decide) (ht _ q_86) (fun _ h9 => h9) rfl dX2_copyFrom_26 ?_
  refine va_put (ci := 2) (v := .int (o 3)) (ty := .int) (C := RX2) (T := TX2) (N := 5) hx hb ht inX2 tyX2 tyX2_ok nmX2 hown hK.1 hP8 hD9 hS7 0 rfl rfl 3 (by decide) (ht _ q_86) (fun _ h9 => h9) rfl (by decide +kernel) rfl rfl (Nat.le_of_ble_eq_true rfl) dX2_copyFrom_29 (fun H10 locs10 hP10 hD10 hS10 => ?_)
  have hP11 : va_P G.1 vwCl ([(h0, .inr (2, cT0 (upd (upd (upd (upd t 0 (o 0)) 1 (o 1)) 2 (o 2)) 3 (o 3)))), (h1, .inr (2, cT0 o))]) H10 := hP10
  have hD12 : va_D A ([(h0, .inr (2, cT0 (upd (upd (upd (upd t 0 (o 0)) 1 (o 1)) 2 (o 2)) 3 (o 3)))), (h1, .inr (2, cT0 o))]) := hD10
  refine lv_aload_n hx hb dX2_copyFrom_32 rfl (lv_at hl 0 rfl) ?_
  refine lv_aload_n hx hb dX2_copyFrom_33 rfl (lv_at hl 1 rfl) ?_
  refine va_get (ci := 2) (v := .int (o 4)) (C := RX2) (T := TX2) (N := 5) hx hb ht inX2 hown hK.1 hP11 1 rfl rfl 4 (by decide) (ht _ q_88) (fun _ h9 => h9) rfl dX2_copyFrom_34 ?_
  refine va_put (ci := 2) (v := .int (o 4)) (ty := .boolean) (C := RX2) (T := TX2) (N := 5) hx hb ht inX2 tyX2 tyX2_ok nmX2 hown hK.1 hP11 hD12 hS10 0 rfl rfl 4 (by decide) (ht _ q_88) (fun _ h9 => h9) rfl (by decide +kernel) (kb_n ho) (kb_f ho) (Nat.le_of_ble_eq_true rfl) dX2_copyFrom_37 (fun H13 locs13 hP13 hD13 hS13 => ?_)
  have hP14 : va_P G.1 vwCl ([(h0, .inr (2, cT0 (upd (upd (upd (upd (upd t 0 (o 0)) 1 (o 1)) 2 (o 2)) 3 (o 3)) 4 (o 4)))), (h1, .inr (2, cT0 o))]) H13 := hP13
  have hD15 : va_D A ([(h0, .inr (2, cT0 (upd (upd (upd (upd (upd t 0 (o 0)) 1 (o 1)) 2 (o 2)) 3 (o 3)) 4 (o 4)))), (h1, .inr (2, cT0 o))]) := hD13
  exact k_vret kx hK hP14 hD15 hS13 (u := ()) rfl trivial dX2_copyFrom_40

set_option maxHeartbeats 4000000 in
set_option maxRecDepth 100000 in
theorem c_X2_describe (l : Launch) (G : kG) (t : Nat → Int32) (X : Nat → Int32) (h0 : Nat) (h1 : Nat) (h2 : Nat) (hX : kb (X 7)) : cG l G yX2_describe cX2_describe 2 none 0 [.ref h0, .ref h1] ([(h0, .inr (2, cT0 t)), (h1, .inr (0, cE X h2)), (h2, .inr (2, cT11 X))]) (qV G (fun _ : Unit => True) (fun _ => [(h0, .inr (2, cT0 (upd (upd (upd (upd (upd t 0 (X 5)) 1 (X 0)) 2 (X 1)) 3 (X 2)) 4 (X 7)))), (h1, .inr (0, cE X h2)), (h2, .inr (2, cT11 X))])) := by
  refine kintro (by decide) (Nat.le_of_ble_eq_true rfl) ?_
  intro p e s m args below meth c A ls kx hK hP hD hS hA hl
  have kx : kX p s m args meth c cX2_describe 2 none RX2 := kx
  have hx := kx.1
  have hb := kx.2.1
  have hown := kx.2.2.2.2.1
  have ht := kx.2.2.2.2.2.2
  have hl : lv_has ls 2 [(0, .ref h0), (1, .ref h1)] := hl
  refine lv_aload_n hx hb dX2_describe_0 rfl (lv_at hl 0 rfl) ?_
  refine lv_aload_n hx hb dX2_describe_1 rfl (lv_at hl 1 rfl) ?_
  refine va_get (ci := 0) (v := .int (X 5)) (C := RX0) (T := TX0) (N := 12) hx hb ht inX0 hown hK.1 hP 1 rfl rfl 5 (by decide) (ht _ q_112) (fun _ h9 => h9) rfl dX2_describe_2 ?_
  refine va_put (ci := 2) (v := .int (X 5)) (ty := .int) (C := RX2) (T := TX2) (N := 5) hx hb ht inX2 tyX2 tyX2_ok nmX2 hown hK.1 hP hD hS 0 rfl rfl 0 (by decide) (ht _ q_80) (fun _ h9 => h9) rfl (by decide +kernel) rfl rfl (Nat.le_of_ble_eq_true rfl) dX2_describe_5 (fun H1 locs1 hP1 hD1 hS1 => ?_)
  have hP2 : va_P G.1 vwCl ([(h0, .inr (2, cT0 (upd t 0 (X 5)))), (h1, .inr (0, cE X h2)), (h2, .inr (2, cT11 X))]) H1 := hP1
  have hD3 : va_D A ([(h0, .inr (2, cT0 (upd t 0 (X 5)))), (h1, .inr (0, cE X h2)), (h2, .inr (2, cT11 X))]) := hD1
  refine lv_aload_n hx hb dX2_describe_8 rfl (lv_at hl 0 rfl) ?_
  refine lv_aload_n hx hb dX2_describe_9 rfl (lv_at hl 1 rfl) ?_
  refine va_get (ci := 0) (v := .int (X 0)) (C := RX0) (T := TX0) (N := 12) hx hb ht inX0 hown hK.1 hP2 1 rfl rfl 0 (by decide) (ht _ q_102) (fun _ h9 => h9) rfl dX2_describe_10 ?_
  refine va_put (ci := 2) (v := .int (X 0)) (ty := .int) (C := RX2) (T := TX2) (N := 5) hx hb ht inX2 tyX2 tyX2_ok nmX2 hown hK.1 hP2 hD3 hS1 0 rfl rfl 1 (by decide) (ht _ q_82) (fun _ h9 => h9) rfl (by decide +kernel) rfl rfl (Nat.le_of_ble_eq_true rfl) dX2_describe_13 (fun H4 locs4 hP4 hD4 hS4 => ?_)
  have hP5 : va_P G.1 vwCl ([(h0, .inr (2, cT0 (upd (upd t 0 (X 5)) 1 (X 0)))), (h1, .inr (0, cE X h2)), (h2, .inr (2, cT11 X))]) H4 := hP4
  have hD6 : va_D A ([(h0, .inr (2, cT0 (upd (upd t 0 (X 5)) 1 (X 0)))), (h1, .inr (0, cE X h2)), (h2, .inr (2, cT11 X))]) := hD4
  refine lv_aload_n hx hb dX2_describe_16 rfl (lv_at hl 0 rfl) ?_
  refine lv_aload_n hx hb dX2_describe_17 rfl (lv_at hl 1 rfl) ?_
  refine va_get (ci := 0) (v := .int (X 1)) (C := RX0) (T := TX0) (N := 12) hx hb ht inX0 hown hK.1 hP5 1 rfl rfl 1 (by decide) (ht _ q_104) (fun _ h9 => h9) rfl dX2_describe_18 ?_
  refine va_put (ci := 2) (v := .int (X 1)) (ty := .int) (C := RX2) (T := TX2) (N := 5) hx hb ht inX2 tyX2 tyX2_ok nmX2 hown hK.1 hP5 hD6 hS4 0 rfl rfl 2 (by decide) (ht _ q_84) (fun _ h9 => h9) rfl (by decide +kernel) rfl rfl (Nat.le_of_ble_eq_true rfl) dX2_describe_21 (fun H7 locs7 hP7 hD7 hS7 => ?_)
  have hP8 : va_P G.1 vwCl ([(h0, .inr (2, cT0 (upd (upd (upd t 0 (X 5)) 1 (X 0)) 2 (X 1)))), (h1, .inr (0, cE X h2)), (h2, .inr (2, cT11 X))]) H7 := hP7
  have hD9 : va_D A ([(h0, .inr (2, cT0 (upd (upd (upd t 0 (X 5)) 1 (X 0)) 2 (X 1)))), (h1, .inr (0, cE X h2)), (h2, .inr (2, cT11 X))]) := hD7
  refine lv_aload_n hx hb dX2_describe_24 rfl (lv_at hl 0 rfl) ?_
  refine lv_aload_n hx hb dX2_describe_25 rfl (lv_at hl 1 rfl) ?_
  refine va_get (ci := 0) (v := .int (X 2)) (C := RX0) (T := TX0) (N := 12) hx hb ht inX0 hown hK.1 hP8 1 rfl rfl 2 (by decide) (ht _ q_107) (fun _ h9 => h9) rfl dX2_describe_26 ?_
  refine va_put (ci := 2) (v := .int (X 2)) (ty := .int) (C := RX2) (T := TX2) (N := 5) hx hb ht inX2 tyX2 tyX2_ok nmX2 hown hK.1 hP8 hD9 hS7 0 rfl rfl 3 (by decide) (ht _ q_86) (fun _ h9 => h9) rfl (by decide +kernel) rfl rfl (Nat.le_of_ble_eq_true rfl) dX2_describe_29 (fun H10 locs10 hP10 hD10 hS10 => ?_)
  have hP11 : va_P G.1 vwCl ([(h0, .inr (2, cT0 (upd (upd (upd (upd t 0 (X 5)) 1 (X 0)) 2 (X 1)) 3 (X 2)))), (h1, .inr (0, cE X h2)), (h2, .inr (2, cT11 X))]) H10 := hP10
  have hD12 : va_D A ([(h0, .inr (2, cT0 (upd (upd (upd (upd t 0 (X 5)) 1 (X 0)) 2 (X 1)) 3 (X 2)))), (h1, .inr (0, cE X h2)), (h2, .inr (2, cT11 X))]) := hD10
  refine lv_aload_n hx hb dX2_describe_32 rfl (lv_at hl 0 rfl) ?_
  refine lv_aload_n hx hb dX2_describe_33 rfl (lv_at hl 1 rfl) ?_
  refine va_get (ci := 0) (v := .int (X 7)) (C := RX0) (T := TX0) (N := 12) hx hb ht inX0 hown hK.1 hP11 1 rfl rfl 9 (by decide) (ht _ q_123) (fun _ h9 => h9) rfl dX2_describe_34 ?_
  refine va_put (ci := 2) (v := .int (X 7)) (ty := .boolean) (C := RX2) (T := TX2) (N := 5) hx hb ht inX2 tyX2 tyX2_ok nmX2 hown hK.1 hP11 hD12 hS10 0 rfl rfl 4 (by decide) (ht _ q_88) (fun _ h9 => h9) rfl (by decide +kernel) (kb_n hX) (kb_f hX) (Nat.le_of_ble_eq_true rfl) dX2_describe_37 (fun H13 locs13 hP13 hD13 hS13 => ?_)
  have hP14 : va_P G.1 vwCl ([(h0, .inr (2, cT0 (upd (upd (upd (upd (upd t 0 (X 5)) 1 (X 0)) 2 (X 1)) 3 (X 2)) 4 (X 7)))), (h1, .inr (0, cE X h2)), (h2, .inr (2, cT11 X))]) H13 := hP13
  have hD15 : va_D A ([(h0, .inr (2, cT0 (upd (upd (upd (upd (upd t 0 (X 5)) 1 (X 0)) 2 (X 1)) 3 (X 2)) 4 (X 7)))), (h1, .inr (0, cE X h2)), (h2, .inr (2, cT11 X))]) := hD13
  exact k_vret kx hK hP14 hD15 hS13 (u := ()) rfl trivial dX2_describe_40

def r_X2_numberOf (t : Nat → Int32) (p0 : Int32) : Int32 := if p0 = 0 then (t 0) else if p0 = 1 then (t 1) else if p0 = 2 then (t 2) else if p0 = 3 then (t 3) else r_X6_oneIf (t 4)
set_option maxHeartbeats 4000000 in
set_option maxRecDepth 100000 in
theorem c_X2_numberOf (l : Launch) (G : kG) (t : Nat → Int32) (h0 : Nat) (p0 : Int32) : cG l G yX2_numberOf cX2_numberOf 2 (some .int) 1 [.ref h0, .int p0] ([(h0, .inr (2, cT0 t))]) (qI G (fun (r : Int32) (_ : Unit) => r = r_X2_numberOf t p0) (fun _ => [(h0, .inr (2, cT0 t))])) := by
  refine kintro (by decide) (Nat.le_of_ble_eq_true rfl) ?_
  intro p e s m args below meth c A ls kx hK hP hD hS hA hl
  have kx : kX p s m args meth c cX2_numberOf 2 (some .int) RX2 := kx
  have hx := kx.1
  have hb := kx.2.1
  have hown := kx.2.2.2.2.1
  have ht := kx.2.2.2.2.2.2
  have hl : lv_has ls 2 [(0, .ref h0), (1, .int p0)] := hl
  refine lv_iload_n hx hb dX2_numberOf_0 rfl (lv_at hl 1 rfl) ?_
  by_cases c1 : p0 = 0
  · skip
    refine lv_tableIn (off := 31) (tgt := 32) hx hb dX2_numberOf_1 (by rw [c1]; decide) (by rw [c1]; decide) (by rw [c1]; rfl) (by decide) ?_
    refine lv_aload_n hx hb dX2_numberOf_32 rfl (lv_at hl 0 rfl) ?_
    refine va_get (ci := 2) (v := .int (t 0)) (C := RX2) (T := TX2) (N := 5) hx hb ht inX2 hown hK.1 hP 0 rfl rfl 0 (by decide) (ht _ q_80) (fun _ h9 => h9) rfl dX2_numberOf_33 ?_
    have er : r_X2_numberOf t p0 = t 0 := by rw [r_X2_numberOf, if_pos c1]
    exact k_iret kx hK hP hD hS (u := ()) rfl er.symm dX2_numberOf_36
  · skip
    by_cases c2 : p0 = 1
    · skip
      refine lv_tableIn (off := 36) (tgt := 37) hx hb dX2_numberOf_1 (by rw [c2]; decide) (by rw [c2]; decide) (by rw [c2]; rfl) (by decide) ?_
      refine lv_aload_n hx hb dX2_numberOf_37 rfl (lv_at hl 0 rfl) ?_
      refine va_get (ci := 2) (v := .int (t 1)) (C := RX2) (T := TX2) (N := 5) hx hb ht inX2 hown hK.1 hP 0 rfl rfl 1 (by decide) (ht _ q_82) (fun _ h9 => h9) rfl dX2_numberOf_38 ?_
      have er : r_X2_numberOf t p0 = t 1 := by rw [r_X2_numberOf, if_neg c1, if_pos c2]
      exact k_iret kx hK hP hD hS (u := ()) rfl er.symm dX2_numberOf_41
    · skip
      by_cases c3 : p0 = 2
      · skip
        refine lv_tableIn (off := 41) (tgt := 42) hx hb dX2_numberOf_1 (by rw [c3]; decide) (by rw [c3]; decide) (by rw [c3]; rfl) (by decide) ?_
        refine lv_aload_n hx hb dX2_numberOf_42 rfl (lv_at hl 0 rfl) ?_
        refine va_get (ci := 2) (v := .int (t 2)) (C := RX2) (T := TX2) (N := 5) hx hb ht inX2 hown hK.1 hP 0 rfl rfl 2 (by decide) (ht _ q_84) (fun _ h9 => h9) rfl dX2_numberOf_43 ?_
        have er : r_X2_numberOf t p0 = t 2 := by rw [r_X2_numberOf, if_neg c1, if_neg c2, if_pos c3]
        exact k_iret kx hK hP hD hS (u := ()) rfl er.symm dX2_numberOf_46
      · skip
        by_cases c4 : p0 = 3
        · skip
          refine lv_tableIn (off := 46) (tgt := 47) hx hb dX2_numberOf_1 (by rw [c4]; decide) (by rw [c4]; decide) (by rw [c4]; rfl) (by decide) ?_
          refine lv_aload_n hx hb dX2_numberOf_47 rfl (lv_at hl 0 rfl) ?_
          refine va_get (ci := 2) (v := .int (t 3)) (C := RX2) (T := TX2) (N := 5) hx hb ht inX2 hown hK.1 hP 0 rfl rfl 3 (by decide) (ht _ q_86) (fun _ h9 => h9) rfl dX2_numberOf_48 ?_
          have er : r_X2_numberOf t p0 = t 3 := by rw [r_X2_numberOf, if_neg c1, if_neg c2, if_neg c3, if_pos c4]
          exact k_iret kx hK hP hD hS (u := ()) rfl er.symm dX2_numberOf_51
        · skip
          have nc1 := lv_neT (a := 0) c1 (by decide)
          have nc2 := lv_neT (a := 1) c2 (by decide)
          have nc3 := lv_neT (a := 2) c3 (by decide)
          have nc4 := lv_neT (a := 3) c4 (by decide)
          refine lv_tableOut (tgt := 52) hx hb dX2_numberOf_1 (by omega) (by decide) ?_
          refine lv_aload_n hx hb dX2_numberOf_52 rfl (lv_at hl 0 rfl) ?_
          refine va_get (ci := 2) (v := .int (t 4)) (C := RX2) (T := TX2) (N := 5) hx hb ht inX2 hown hK.1 hP 0 rfl rfl 4 (by decide) (ht _ q_88) (fun _ h9 => h9) rfl dX2_numberOf_53 ?_
          refine k_calli (kRunSN (As := [.int (t 4)]) (rest := []) kx (c_X6_oneIf l G (t 4)) q_469 hK.2.2.2.2.2.2.2.2.1 q_29 q_468 nX6_oneIf ⟨Nat.le_of_ble_eq_true rfl, Nat.le_of_ble_eq_true rfl⟩ hK hP hD (kCtx_nil _) rfl hl.1 (Nat.le_of_ble_eq_true rfl) dX2_numberOf_56 ⟨Nat.zero_le _, Nat.zero_le _⟩) hP hD hS hA (kCtx_nil _) (fun _ => rfl) (fun r5 _ H1 locs1 hw hP1 hD1 hS1 => ?_)
          have hr5 : r_X6_oneIf (t 4) = r5 := (show r5 = r_X6_oneIf (t 4) from hw).symm
          have hP2 : va_P G.1 vwCl ([(h0, .inr (2, cT0 t))]) H1 := hP1
          have hD3 : va_D A ([(h0, .inr (2, cT0 t))]) := hD1
          have er : r_X2_numberOf t p0 = r5 := by rw [r_X2_numberOf]; (try rw [hr5]); rw [if_neg c1, if_neg c2, if_neg c3, if_neg c4]
          exact k_iret kx hK hP2 hD3 hS1 (u := ()) rfl er.symm dX2_numberOf_59

set_option maxHeartbeats 4000000 in
set_option maxRecDepth 100000 in
theorem c_X0_reset (l : Launch) (G : kG) (X : Nat → Int32) (h0 : Nat) (h1 : Nat) : cG l G yX0_reset cX0_reset 1 none 1 [.ref h0] ([(h0, .inr (0, cE X h1)), (h1, .inr (2, cT11 X))]) (qV G (fun _ : Unit => True) (fun _ => [(h0, .inr (0, cE (upd (upd (upd (upd (upd (upd (upd (upd (upd (upd (upd (upd (upd (upd (upd (upd X 0 1) 1 1) 2 1) 3 1) 4 1) 5 0) 8 0) 9 0) 6 0) 7 0) 10 0) 11 0) 12 1) 13 1) 14 1) 15 0) h1)), (h1, .inr (2, cT11 (upd (upd (upd (upd (upd (upd (upd (upd (upd (upd (upd (upd (upd (upd (upd (upd X 0 1) 1 1) 2 1) 3 1) 4 1) 5 0) 8 0) 9 0) 6 0) 7 0) 10 0) 11 0) 12 1) 13 1) 14 1) 15 0)))])) := by
  refine kintro (by decide) (Nat.le_of_ble_eq_true rfl) ?_
  intro p e s m args below meth c A ls kx hK hP hD hS hA hl
  have kx : kX p s m args meth c cX0_reset 1 none RX0 := kx
  have hx := kx.1
  have hb := kx.2.1
  have hown := kx.2.2.2.2.1
  have ht := kx.2.2.2.2.2.2
  have hl : lv_has ls 1 [(0, .ref h0)] := hl
  refine lv_aload_n hx hb dX0_reset_0 rfl (lv_at hl 0 rfl) ?_
  refine lv_iconst (v := 1) hx hb dX0_reset_1 (by decide) ?_
  refine va_put (ci := 0) (v := .int 1) (ty := .int) (C := RX0) (T := TX0) (N := 12) hx hb ht inX0 tyX0 tyX0_ok nmX0 hown hK.1 hP hD hS 0 rfl rfl 0 (by decide) (ht _ q_101) (fun _ h9 => h9) rfl (by decide +kernel) rfl rfl (Nat.le_of_ble_eq_true rfl) dX0_reset_2 (fun H1 locs1 hP1 hD1 hS1 => ?_)
  have hP2 : va_P G.1 vwCl ([(h0, .inr (0, cE (upd X 0 1) h1)), (h1, .inr (2, cT11 (upd X 0 1)))]) H1 := hP1
  have hD3 : va_D A ([(h0, .inr (0, cE (upd X 0 1) h1)), (h1, .inr (2, cT11 (upd X 0 1)))]) := hD1
  refine lv_aload_n hx hb dX0_reset_5 rfl (lv_at hl 0 rfl) ?_
  refine lv_iconst (v := 1) hx hb dX0_reset_6 (by decide) ?_
  refine va_put (ci := 0) (v := .int 1) (ty := .int) (C := RX0) (T := TX0) (N := 12) hx hb ht inX0 tyX0 tyX0_ok nmX0 hown hK.1 hP2 hD3 hS1 0 rfl rfl 1 (by decide) (ht _ q_103) (fun _ h9 => h9) rfl (by decide +kernel) rfl rfl (Nat.le_of_ble_eq_true rfl) dX0_reset_7 (fun H4 locs4 hP4 hD4 hS4 => ?_)
  have hP5 : va_P G.1 vwCl ([(h0, .inr (0, cE (upd (upd X 0 1) 1 1) h1)), (h1, .inr (2, cT11 (upd (upd X 0 1) 1 1)))]) H4 := hP4
  have hD6 : va_D A ([(h0, .inr (0, cE (upd (upd X 0 1) 1 1) h1)), (h1, .inr (2, cT11 (upd (upd X 0 1) 1 1)))]) := hD4
  refine lv_aload_n hx hb dX0_reset_10 rfl (lv_at hl 0 rfl) ?_
  refine lv_iconst (v := 1) hx hb dX0_reset_11 (by decide) ?_
  refine va_put (ci := 0) (v := .int 1) (ty := .int) (C := RX0) (T := TX0) (N := 12) hx hb ht inX0 tyX0 tyX0_ok nmX0 hown hK.1 hP5 hD6 hS4 0 rfl rfl 2 (by decide) (ht _ q_106) (fun _ h9 => h9) rfl (by decide +kernel) rfl rfl (Nat.le_of_ble_eq_true rfl) dX0_reset_12 (fun H7 locs7 hP7 hD7 hS7 => ?_)
  have hP8 : va_P G.1 vwCl ([(h0, .inr (0, cE (upd (upd (upd X 0 1) 1 1) 2 1) h1)), (h1, .inr (2, cT11 (upd (upd (upd X 0 1) 1 1) 2 1)))]) H7 := hP7
  have hD9 : va_D A ([(h0, .inr (0, cE (upd (upd (upd X 0 1) 1 1) 2 1) h1)), (h1, .inr (2, cT11 (upd (upd (upd X 0 1) 1 1) 2 1)))]) := hD7
  refine lv_aload_n hx hb dX0_reset_15 rfl (lv_at hl 0 rfl) ?_
  refine lv_iconst (v := 1) hx hb dX0_reset_16 (by decide) ?_
  refine va_put (ci := 0) (v := .int 1) (ty := .int) (C := RX0) (T := TX0) (N := 12) hx hb ht inX0 tyX0 tyX0_ok nmX0 hown hK.1 hP8 hD9 hS7 0 rfl rfl 3 (by decide) (ht _ q_108) (fun _ h9 => h9) rfl (by decide +kernel) rfl rfl (Nat.le_of_ble_eq_true rfl) dX0_reset_17 (fun H10 locs10 hP10 hD10 hS10 => ?_)
  have hP11 : va_P G.1 vwCl ([(h0, .inr (0, cE (upd (upd (upd (upd X 0 1) 1 1) 2 1) 3 1) h1)), (h1, .inr (2, cT11 (upd (upd (upd (upd X 0 1) 1 1) 2 1) 3 1)))]) H10 := hP10
  have hD12 : va_D A ([(h0, .inr (0, cE (upd (upd (upd (upd X 0 1) 1 1) 2 1) 3 1) h1)), (h1, .inr (2, cT11 (upd (upd (upd (upd X 0 1) 1 1) 2 1) 3 1)))]) := hD10
  refine lv_aload_n hx hb dX0_reset_20 rfl (lv_at hl 0 rfl) ?_
  refine lv_iconst (v := 1) hx hb dX0_reset_21 (by decide) ?_
  refine va_put (ci := 0) (v := .int 1) (ty := .int) (C := RX0) (T := TX0) (N := 12) hx hb ht inX0 tyX0 tyX0_ok nmX0 hown hK.1 hP11 hD12 hS10 0 rfl rfl 4 (by decide) (ht _ q_109) (fun _ h9 => h9) rfl (by decide +kernel) rfl rfl (Nat.le_of_ble_eq_true rfl) dX0_reset_22 (fun H13 locs13 hP13 hD13 hS13 => ?_)
  have hP14 : va_P G.1 vwCl ([(h0, .inr (0, cE (upd (upd (upd (upd (upd X 0 1) 1 1) 2 1) 3 1) 4 1) h1)), (h1, .inr (2, cT11 (upd (upd (upd (upd (upd X 0 1) 1 1) 2 1) 3 1) 4 1)))]) H13 := hP13
  have hD15 : va_D A ([(h0, .inr (0, cE (upd (upd (upd (upd (upd X 0 1) 1 1) 2 1) 3 1) 4 1) h1)), (h1, .inr (2, cT11 (upd (upd (upd (upd (upd X 0 1) 1 1) 2 1) 3 1) 4 1)))]) := hD13
  refine lv_aload_n hx hb dX0_reset_25 rfl (lv_at hl 0 rfl) ?_
  refine lv_iconst (v := 0) hx hb dX0_reset_26 (by decide) ?_
  refine va_put (ci := 0) (v := .int 0) (ty := .int) (C := RX0) (T := TX0) (N := 12) hx hb ht inX0 tyX0 tyX0_ok nmX0 hown hK.1 hP14 hD15 hS13 0 rfl rfl 5 (by decide) (ht _ q_111) (fun _ h9 => h9) rfl (by decide +kernel) rfl rfl (Nat.le_of_ble_eq_true rfl) dX0_reset_27 (fun H16 locs16 hP16 hD16 hS16 => ?_)
  have hP17 : va_P G.1 vwCl ([(h0, .inr (0, cE (upd (upd (upd (upd (upd (upd X 0 1) 1 1) 2 1) 3 1) 4 1) 5 0) h1)), (h1, .inr (2, cT11 (upd (upd (upd (upd (upd (upd X 0 1) 1 1) 2 1) 3 1) 4 1) 5 0)))]) H16 := hP16
  have hD18 : va_D A ([(h0, .inr (0, cE (upd (upd (upd (upd (upd (upd X 0 1) 1 1) 2 1) 3 1) 4 1) 5 0) h1)), (h1, .inr (2, cT11 (upd (upd (upd (upd (upd (upd X 0 1) 1 1) 2 1) 3 1) 4 1) 5 0)))]) := hD16
  refine lv_aload_n hx hb dX0_reset_30 rfl (lv_at hl 0 rfl) ?_
  refine lv_iconst (v := 0) hx hb dX0_reset_31 (by decide) ?_
  refine va_put (ci := 0) (v := .int 0) (ty := .int) (C := RX0) (T := TX0) (N := 12) hx hb ht inX0 tyX0 tyX0_ok nmX0 hown hK.1 hP17 hD18 hS16 0 rfl rfl 6 (by decide) (ht _ q_116) (fun _ h9 => h9) rfl (by decide +kernel) rfl rfl (Nat.le_of_ble_eq_true rfl) dX0_reset_32 (fun H19 locs19 hP19 hD19 hS19 => ?_)
  have hP20 : va_P G.1 vwCl ([(h0, .inr (0, cE (upd (upd (upd (upd (upd (upd (upd X 0 1) 1 1) 2 1) 3 1) 4 1) 5 0) 8 0) h1)), (h1, .inr (2, cT11 (upd (upd (upd (upd (upd (upd (upd X 0 1) 1 1) 2 1) 3 1) 4 1) 5 0) 8 0)))]) H19 := hP19
  have hD21 : va_D A ([(h0, .inr (0, cE (upd (upd (upd (upd (upd (upd (upd X 0 1) 1 1) 2 1) 3 1) 4 1) 5 0) 8 0) h1)), (h1, .inr (2, cT11 (upd (upd (upd (upd (upd (upd (upd X 0 1) 1 1) 2 1) 3 1) 4 1) 5 0) 8 0)))]) := hD19
  refine lv_aload_n hx hb dX0_reset_35 rfl (lv_at hl 0 rfl) ?_
  refine lv_iconst (v := 0) hx hb dX0_reset_36 (by decide) ?_
  refine va_put (ci := 0) (v := .int 0) (ty := .int) (C := RX0) (T := TX0) (N := 12) hx hb ht inX0 tyX0 tyX0_ok nmX0 hown hK.1 hP20 hD21 hS19 0 rfl rfl 7 (by decide) (ht _ q_117) (fun _ h9 => h9) rfl (by decide +kernel) rfl rfl (Nat.le_of_ble_eq_true rfl) dX0_reset_37 (fun H22 locs22 hP22 hD22 hS22 => ?_)
  have hP23 : va_P G.1 vwCl ([(h0, .inr (0, cE (upd (upd (upd (upd (upd (upd (upd (upd X 0 1) 1 1) 2 1) 3 1) 4 1) 5 0) 8 0) 9 0) h1)), (h1, .inr (2, cT11 (upd (upd (upd (upd (upd (upd (upd (upd X 0 1) 1 1) 2 1) 3 1) 4 1) 5 0) 8 0) 9 0)))]) H22 := hP22
  have hD24 : va_D A ([(h0, .inr (0, cE (upd (upd (upd (upd (upd (upd (upd (upd X 0 1) 1 1) 2 1) 3 1) 4 1) 5 0) 8 0) 9 0) h1)), (h1, .inr (2, cT11 (upd (upd (upd (upd (upd (upd (upd (upd X 0 1) 1 1) 2 1) 3 1) 4 1) 5 0) 8 0) 9 0)))]) := hD22
  refine lv_aload_n hx hb dX0_reset_40 rfl (lv_at hl 0 rfl) ?_
  refine lv_iconst (v := 0) hx hb dX0_reset_41 (by decide) ?_
  refine va_put (ci := 0) (v := .int 0) (ty := .boolean) (C := RX0) (T := TX0) (N := 12) hx hb ht inX0 tyX0 tyX0_ok nmX0 hown hK.1 hP23 hD24 hS22 0 rfl rfl 8 (by decide) (ht _ q_119) (fun _ h9 => h9) rfl (by decide +kernel) (kb_n kb0) (kb_f kb0) (Nat.le_of_ble_eq_true rfl) dX0_reset_42 (fun H25 locs25 hP25 hD25 hS25 => ?_)
  have hP26 : va_P G.1 vwCl ([(h0, .inr (0, cE (upd (upd (upd (upd (upd (upd (upd (upd (upd X 0 1) 1 1) 2 1) 3 1) 4 1) 5 0) 8 0) 9 0) 6 0) h1)), (h1, .inr (2, cT11 (upd (upd (upd (upd (upd (upd (upd (upd (upd X 0 1) 1 1) 2 1) 3 1) 4 1) 5 0) 8 0) 9 0) 6 0)))]) H25 := hP25
  have hD27 : va_D A ([(h0, .inr (0, cE (upd (upd (upd (upd (upd (upd (upd (upd (upd X 0 1) 1 1) 2 1) 3 1) 4 1) 5 0) 8 0) 9 0) 6 0) h1)), (h1, .inr (2, cT11 (upd (upd (upd (upd (upd (upd (upd (upd (upd X 0 1) 1 1) 2 1) 3 1) 4 1) 5 0) 8 0) 9 0) 6 0)))]) := hD25
  refine lv_aload_n hx hb dX0_reset_45 rfl (lv_at hl 0 rfl) ?_
  refine lv_iconst (v := 0) hx hb dX0_reset_46 (by decide) ?_
  refine va_put (ci := 0) (v := .int 0) (ty := .boolean) (C := RX0) (T := TX0) (N := 12) hx hb ht inX0 tyX0 tyX0_ok nmX0 hown hK.1 hP26 hD27 hS25 0 rfl rfl 9 (by decide) (ht _ q_122) (fun _ h9 => h9) rfl (by decide +kernel) (kb_n kb0) (kb_f kb0) (Nat.le_of_ble_eq_true rfl) dX0_reset_47 (fun H28 locs28 hP28 hD28 hS28 => ?_)
  have hP29 : va_P G.1 vwCl ([(h0, .inr (0, cE (upd (upd (upd (upd (upd (upd (upd (upd (upd (upd X 0 1) 1 1) 2 1) 3 1) 4 1) 5 0) 8 0) 9 0) 6 0) 7 0) h1)), (h1, .inr (2, cT11 (upd (upd (upd (upd (upd (upd (upd (upd (upd (upd X 0 1) 1 1) 2 1) 3 1) 4 1) 5 0) 8 0) 9 0) 6 0) 7 0)))]) H28 := hP28
  have hD30 : va_D A ([(h0, .inr (0, cE (upd (upd (upd (upd (upd (upd (upd (upd (upd (upd X 0 1) 1 1) 2 1) 3 1) 4 1) 5 0) 8 0) 9 0) 6 0) 7 0) h1)), (h1, .inr (2, cT11 (upd (upd (upd (upd (upd (upd (upd (upd (upd (upd X 0 1) 1 1) 2 1) 3 1) 4 1) 5 0) 8 0) 9 0) 6 0) 7 0)))]) := hD28
  refine lv_aload_n hx hb dX0_reset_50 rfl (lv_at hl 0 rfl) ?_
  refine lv_iconst (v := 0) hx hb dX0_reset_51 (by decide) ?_
  refine va_put (ci := 0) (v := .int 0) (ty := .boolean) (C := RX0) (T := TX0) (N := 12) hx hb ht inX0 tyX0 tyX0_ok nmX0 hown hK.1 hP29 hD30 hS28 0 rfl rfl 10 (by decide) (ht _ q_125) (fun _ h9 => h9) rfl (by decide +kernel) (kb_n kb0) (kb_f kb0) (Nat.le_of_ble_eq_true rfl) dX0_reset_52 (fun H31 locs31 hP31 hD31 hS31 => ?_)
  have hP32 : va_P G.1 vwCl ([(h0, .inr (0, cE (upd (upd (upd (upd (upd (upd (upd (upd (upd (upd (upd X 0 1) 1 1) 2 1) 3 1) 4 1) 5 0) 8 0) 9 0) 6 0) 7 0) 10 0) h1)), (h1, .inr (2, cT11 (upd (upd (upd (upd (upd (upd (upd (upd (upd (upd (upd X 0 1) 1 1) 2 1) 3 1) 4 1) 5 0) 8 0) 9 0) 6 0) 7 0) 10 0)))]) H31 := hP31
  have hD33 : va_D A ([(h0, .inr (0, cE (upd (upd (upd (upd (upd (upd (upd (upd (upd (upd (upd X 0 1) 1 1) 2 1) 3 1) 4 1) 5 0) 8 0) 9 0) 6 0) 7 0) 10 0) h1)), (h1, .inr (2, cT11 (upd (upd (upd (upd (upd (upd (upd (upd (upd (upd (upd X 0 1) 1 1) 2 1) 3 1) 4 1) 5 0) 8 0) 9 0) 6 0) 7 0) 10 0)))]) := hD31
  refine lv_aload_n hx hb dX0_reset_55 rfl (lv_at hl 0 rfl) ?_
  refine va_get (ci := 0) (v := .ref h1) (C := RX0) (T := TX0) (N := 12) hx hb ht inX0 hown hK.1 hP32 0 rfl rfl 11 (by decide) (ht _ q_128) (fun _ h9 => h9) rfl dX0_reset_56 ?_
  refine k_callv (kRunV (As := []) (rest := []) kx (c_X2_reset l G (fun i => (upd (upd (upd (upd (upd (upd (upd (upd (upd (upd (upd X 0 1) 1 1) 2 1) 3 1) 4 1) 5 0) 8 0) 9 0) 6 0) 7 0) 10 0) (11 + i)) h1) q_202 q_199 q_33 q_200 q_201 nX2_reset ⟨Nat.le_of_ble_eq_true rfl, Nat.le_of_ble_eq_true rfl⟩ hK hP32 hD33 (kCtx_places _ _ [1] rfl rfl) 0 2 rfl rfl rfl rfl hl.1 (Nat.le_of_ble_eq_true rfl) dX0_reset_59 ⟨Nat.zero_le _, Nat.zero_le _⟩) hP32 hD33 hS31 hA (kCtx_places _ _ [1] rfl rfl) (fun _ => rfl) (fun _ H34 locs34 hw hP34 hD34 hS34 => ?_)
  have hP35 : va_P G.1 vwCl ([(h0, .inr (0, cE (upd (upd (upd (upd (upd (upd (upd (upd (upd (upd (upd (upd (upd (upd (upd (upd X 0 1) 1 1) 2 1) 3 1) 4 1) 5 0) 8 0) 9 0) 6 0) 7 0) 10 0) 11 0) 12 1) 13 1) 14 1) 15 0) h1)), (h1, .inr (2, cT11 (upd (upd (upd (upd (upd (upd (upd (upd (upd (upd (upd (upd (upd (upd (upd (upd X 0 1) 1 1) 2 1) 3 1) 4 1) 5 0) 8 0) 9 0) 6 0) 7 0) 10 0) 11 0) 12 1) 13 1) 14 1) 15 0)))]) H34 := hP34
  have hD36 : va_D A ([(h0, .inr (0, cE (upd (upd (upd (upd (upd (upd (upd (upd (upd (upd (upd (upd (upd (upd (upd (upd X 0 1) 1 1) 2 1) 3 1) 4 1) 5 0) 8 0) 9 0) 6 0) 7 0) 10 0) 11 0) 12 1) 13 1) 14 1) 15 0) h1)), (h1, .inr (2, cT11 (upd (upd (upd (upd (upd (upd (upd (upd (upd (upd (upd (upd (upd (upd (upd (upd X 0 1) 1 1) 2 1) 3 1) 4 1) 5 0) 8 0) 9 0) 6 0) 7 0) 10 0) 11 0) 12 1) 13 1) 14 1) 15 0)))]) := hD34
  exact k_vret kx hK hP35 hD36 hS34 (u := ()) rfl trivial dX0_reset_62

set_option maxHeartbeats 4000000 in
set_option maxRecDepth 100000 in
theorem c_X0_copyFrom (l : Launch) (G : kG) (X : Nat → Int32) (O : Nat → Int32) (h0 : Nat) (h1 : Nat) (h2 : Nat) (h3 : Nat) (hO : bE O) : cG l G yX0_copyFrom cX0_copyFrom 2 none 1 [.ref h0, .ref h2] ([(h0, .inr (0, cE X h1)), (h1, .inr (2, cT11 X)), (h2, .inr (0, cE O h3)), (h3, .inr (2, cT11 O))]) (qV G (fun _ : Unit => True) (fun _ => [(h0, .inr (0, cE O h1)), (h1, .inr (2, cT11 O)), (h2, .inr (0, cE O h3)), (h3, .inr (2, cT11 O))])) := by
  refine kintro (by decide) (Nat.le_of_ble_eq_true rfl) ?_
  intro p e s m args below meth c A ls kx hK hP hD hS hA hl
  have kx : kX p s m args meth c cX0_copyFrom 2 none RX0 := kx
  have hx := kx.1
  have hb := kx.2.1
  have hown := kx.2.2.2.2.1
  have ht := kx.2.2.2.2.2.2
  have hl : lv_has ls 2 [(0, .ref h0), (1, .ref h2)] := hl
  refine lv_aload_n hx hb dX0_copyFrom_0 rfl (lv_at hl 0 rfl) ?_
  refine lv_aload_n hx hb dX0_copyFrom_1 rfl (lv_at hl 1 rfl) ?_
  refine va_get (ci := 0) (v := .int (O 0)) (C := RX0) (T := TX0) (N := 12) hx hb ht inX0 hown hK.1 hP 2 rfl rfl 0 (by decide) (ht _ q_101) (fun _ h9 => h9) rfl dX0_copyFrom_2 ?_
  refine va_put (ci := 0) (v := .int (O 0)) (ty := .int) (C := RX0) (T := TX0) (N := 12) hx hb ht inX0 tyX0 tyX0_ok nmX0 hown hK.1 hP hD hS 0 rfl rfl 0 (by decide) (ht _ q_101) (fun _ h9 => h9) rfl (by decide +kernel) rfl rfl (Nat.le_of_ble_eq_true rfl) dX0_copyFrom_5 (fun H1 locs1 hP1 hD1 hS1 => ?_)
  have hP2 : va_P G.1 vwCl ([(h0, .inr (0, cE (upd X 0 (O 0)) h1)), (h1, .inr (2, cT11 (upd X 0 (O 0)))), (h2, .inr (0, cE O h3)), (h3, .inr (2, cT11 O))]) H1 := hP1
  have hD3 : va_D A ([(h0, .inr (0, cE (upd X 0 (O 0)) h1)), (h1, .inr (2, cT11 (upd X 0 (O 0)))), (h2, .inr (0, cE O h3)), (h3, .inr (2, cT11 O))]) := hD1
  refine lv_aload_n hx hb dX0_copyFrom_8 rfl (lv_at hl 0 rfl) ?_
  refine lv_aload_n hx hb dX0_copyFrom_9 rfl (lv_at hl 1 rfl) ?_
  refine va_get (ci := 0) (v := .int (O 1)) (C := RX0) (T := TX0) (N := 12) hx hb ht inX0 hown hK.1 hP2 2 rfl rfl 1 (by decide) (ht _ q_103) (fun _ h9 => h9) rfl dX0_copyFrom_10 ?_
  refine va_put (ci := 0) (v := .int (O 1)) (ty := .int) (C := RX0) (T := TX0) (N := 12) hx hb ht inX0 tyX0 tyX0_ok nmX0 hown hK.1 hP2 hD3 hS1 0 rfl rfl 1 (by decide) (ht _ q_103) (fun _ h9 => h9) rfl (by decide +kernel) rfl rfl (Nat.le_of_ble_eq_true rfl) dX0_copyFrom_13 (fun H4 locs4 hP4 hD4 hS4 => ?_)
  have hP5 : va_P G.1 vwCl ([(h0, .inr (0, cE (upd (upd X 0 (O 0)) 1 (O 1)) h1)), (h1, .inr (2, cT11 (upd (upd X 0 (O 0)) 1 (O 1)))), (h2, .inr (0, cE O h3)), (h3, .inr (2, cT11 O))]) H4 := hP4
  have hD6 : va_D A ([(h0, .inr (0, cE (upd (upd X 0 (O 0)) 1 (O 1)) h1)), (h1, .inr (2, cT11 (upd (upd X 0 (O 0)) 1 (O 1)))), (h2, .inr (0, cE O h3)), (h3, .inr (2, cT11 O))]) := hD4
  refine lv_aload_n hx hb dX0_copyFrom_16 rfl (lv_at hl 0 rfl) ?_
  refine lv_aload_n hx hb dX0_copyFrom_17 rfl (lv_at hl 1 rfl) ?_
  refine va_get (ci := 0) (v := .int (O 2)) (C := RX0) (T := TX0) (N := 12) hx hb ht inX0 hown hK.1 hP5 2 rfl rfl 2 (by decide) (ht _ q_106) (fun _ h9 => h9) rfl dX0_copyFrom_18 ?_
  refine va_put (ci := 0) (v := .int (O 2)) (ty := .int) (C := RX0) (T := TX0) (N := 12) hx hb ht inX0 tyX0 tyX0_ok nmX0 hown hK.1 hP5 hD6 hS4 0 rfl rfl 2 (by decide) (ht _ q_106) (fun _ h9 => h9) rfl (by decide +kernel) rfl rfl (Nat.le_of_ble_eq_true rfl) dX0_copyFrom_21 (fun H7 locs7 hP7 hD7 hS7 => ?_)
  have hP8 : va_P G.1 vwCl ([(h0, .inr (0, cE (upd (upd (upd X 0 (O 0)) 1 (O 1)) 2 (O 2)) h1)), (h1, .inr (2, cT11 (upd (upd (upd X 0 (O 0)) 1 (O 1)) 2 (O 2)))), (h2, .inr (0, cE O h3)), (h3, .inr (2, cT11 O))]) H7 := hP7
  have hD9 : va_D A ([(h0, .inr (0, cE (upd (upd (upd X 0 (O 0)) 1 (O 1)) 2 (O 2)) h1)), (h1, .inr (2, cT11 (upd (upd (upd X 0 (O 0)) 1 (O 1)) 2 (O 2)))), (h2, .inr (0, cE O h3)), (h3, .inr (2, cT11 O))]) := hD7
  refine lv_aload_n hx hb dX0_copyFrom_24 rfl (lv_at hl 0 rfl) ?_
  refine lv_aload_n hx hb dX0_copyFrom_25 rfl (lv_at hl 1 rfl) ?_
  refine va_get (ci := 0) (v := .int (O 3)) (C := RX0) (T := TX0) (N := 12) hx hb ht inX0 hown hK.1 hP8 2 rfl rfl 3 (by decide) (ht _ q_108) (fun _ h9 => h9) rfl dX0_copyFrom_26 ?_
  refine va_put (ci := 0) (v := .int (O 3)) (ty := .int) (C := RX0) (T := TX0) (N := 12) hx hb ht inX0 tyX0 tyX0_ok nmX0 hown hK.1 hP8 hD9 hS7 0 rfl rfl 3 (by decide) (ht _ q_108) (fun _ h9 => h9) rfl (by decide +kernel) rfl rfl (Nat.le_of_ble_eq_true rfl) dX0_copyFrom_29 (fun H10 locs10 hP10 hD10 hS10 => ?_)
  have hP11 : va_P G.1 vwCl ([(h0, .inr (0, cE (upd (upd (upd (upd X 0 (O 0)) 1 (O 1)) 2 (O 2)) 3 (O 3)) h1)), (h1, .inr (2, cT11 (upd (upd (upd (upd X 0 (O 0)) 1 (O 1)) 2 (O 2)) 3 (O 3)))), (h2, .inr (0, cE O h3)), (h3, .inr (2, cT11 O))]) H10 := hP10
  have hD12 : va_D A ([(h0, .inr (0, cE (upd (upd (upd (upd X 0 (O 0)) 1 (O 1)) 2 (O 2)) 3 (O 3)) h1)), (h1, .inr (2, cT11 (upd (upd (upd (upd X 0 (O 0)) 1 (O 1)) 2 (O 2)) 3 (O 3)))), (h2, .inr (0, cE O h3)), (h3, .inr (2, cT11 O))]) := hD10
  refine lv_aload_n hx hb dX0_copyFrom_32 rfl (lv_at hl 0 rfl) ?_
  refine lv_aload_n hx hb dX0_copyFrom_33 rfl (lv_at hl 1 rfl) ?_
  refine va_get (ci := 0) (v := .int (O 4)) (C := RX0) (T := TX0) (N := 12) hx hb ht inX0 hown hK.1 hP11 2 rfl rfl 4 (by decide) (ht _ q_109) (fun _ h9 => h9) rfl dX0_copyFrom_34 ?_
  refine va_put (ci := 0) (v := .int (O 4)) (ty := .int) (C := RX0) (T := TX0) (N := 12) hx hb ht inX0 tyX0 tyX0_ok nmX0 hown hK.1 hP11 hD12 hS10 0 rfl rfl 4 (by decide) (ht _ q_109) (fun _ h9 => h9) rfl (by decide +kernel) rfl rfl (Nat.le_of_ble_eq_true rfl) dX0_copyFrom_37 (fun H13 locs13 hP13 hD13 hS13 => ?_)
  have hP14 : va_P G.1 vwCl ([(h0, .inr (0, cE (upd (upd (upd (upd (upd X 0 (O 0)) 1 (O 1)) 2 (O 2)) 3 (O 3)) 4 (O 4)) h1)), (h1, .inr (2, cT11 (upd (upd (upd (upd (upd X 0 (O 0)) 1 (O 1)) 2 (O 2)) 3 (O 3)) 4 (O 4)))), (h2, .inr (0, cE O h3)), (h3, .inr (2, cT11 O))]) H13 := hP13
  have hD15 : va_D A ([(h0, .inr (0, cE (upd (upd (upd (upd (upd X 0 (O 0)) 1 (O 1)) 2 (O 2)) 3 (O 3)) 4 (O 4)) h1)), (h1, .inr (2, cT11 (upd (upd (upd (upd (upd X 0 (O 0)) 1 (O 1)) 2 (O 2)) 3 (O 3)) 4 (O 4)))), (h2, .inr (0, cE O h3)), (h3, .inr (2, cT11 O))]) := hD13
  refine lv_aload_n hx hb dX0_copyFrom_40 rfl (lv_at hl 0 rfl) ?_
  refine lv_aload_n hx hb dX0_copyFrom_41 rfl (lv_at hl 1 rfl) ?_
  refine va_get (ci := 0) (v := .int (O 5)) (C := RX0) (T := TX0) (N := 12) hx hb ht inX0 hown hK.1 hP14 2 rfl rfl 5 (by decide) (ht _ q_111) (fun _ h9 => h9) rfl dX0_copyFrom_42 ?_
  refine va_put (ci := 0) (v := .int (O 5)) (ty := .int) (C := RX0) (T := TX0) (N := 12) hx hb ht inX0 tyX0 tyX0_ok nmX0 hown hK.1 hP14 hD15 hS13 0 rfl rfl 5 (by decide) (ht _ q_111) (fun _ h9 => h9) rfl (by decide +kernel) rfl rfl (Nat.le_of_ble_eq_true rfl) dX0_copyFrom_45 (fun H16 locs16 hP16 hD16 hS16 => ?_)
  have hP17 : va_P G.1 vwCl ([(h0, .inr (0, cE (upd (upd (upd (upd (upd (upd X 0 (O 0)) 1 (O 1)) 2 (O 2)) 3 (O 3)) 4 (O 4)) 5 (O 5)) h1)), (h1, .inr (2, cT11 (upd (upd (upd (upd (upd (upd X 0 (O 0)) 1 (O 1)) 2 (O 2)) 3 (O 3)) 4 (O 4)) 5 (O 5)))), (h2, .inr (0, cE O h3)), (h3, .inr (2, cT11 O))]) H16 := hP16
  have hD18 : va_D A ([(h0, .inr (0, cE (upd (upd (upd (upd (upd (upd X 0 (O 0)) 1 (O 1)) 2 (O 2)) 3 (O 3)) 4 (O 4)) 5 (O 5)) h1)), (h1, .inr (2, cT11 (upd (upd (upd (upd (upd (upd X 0 (O 0)) 1 (O 1)) 2 (O 2)) 3 (O 3)) 4 (O 4)) 5 (O 5)))), (h2, .inr (0, cE O h3)), (h3, .inr (2, cT11 O))]) := hD16
  refine lv_aload_n hx hb dX0_copyFrom_48 rfl (lv_at hl 0 rfl) ?_
  refine lv_aload_n hx hb dX0_copyFrom_49 rfl (lv_at hl 1 rfl) ?_
  refine va_get (ci := 0) (v := .int (O 8)) (C := RX0) (T := TX0) (N := 12) hx hb ht inX0 hown hK.1 hP17 2 rfl rfl 6 (by decide) (ht _ q_116) (fun _ h9 => h9) rfl dX0_copyFrom_50 ?_
  refine va_put (ci := 0) (v := .int (O 8)) (ty := .int) (C := RX0) (T := TX0) (N := 12) hx hb ht inX0 tyX0 tyX0_ok nmX0 hown hK.1 hP17 hD18 hS16 0 rfl rfl 6 (by decide) (ht _ q_116) (fun _ h9 => h9) rfl (by decide +kernel) rfl rfl (Nat.le_of_ble_eq_true rfl) dX0_copyFrom_53 (fun H19 locs19 hP19 hD19 hS19 => ?_)
  have hP20 : va_P G.1 vwCl ([(h0, .inr (0, cE (upd (upd (upd (upd (upd (upd (upd X 0 (O 0)) 1 (O 1)) 2 (O 2)) 3 (O 3)) 4 (O 4)) 5 (O 5)) 8 (O 8)) h1)), (h1, .inr (2, cT11 (upd (upd (upd (upd (upd (upd (upd X 0 (O 0)) 1 (O 1)) 2 (O 2)) 3 (O 3)) 4 (O 4)) 5 (O 5)) 8 (O 8)))), (h2, .inr (0, cE O h3)), (h3, .inr (2, cT11 O))]) H19 := hP19
  have hD21 : va_D A ([(h0, .inr (0, cE (upd (upd (upd (upd (upd (upd (upd X 0 (O 0)) 1 (O 1)) 2 (O 2)) 3 (O 3)) 4 (O 4)) 5 (O 5)) 8 (O 8)) h1)), (h1, .inr (2, cT11 (upd (upd (upd (upd (upd (upd (upd X 0 (O 0)) 1 (O 1)) 2 (O 2)) 3 (O 3)) 4 (O 4)) 5 (O 5)) 8 (O 8)))), (h2, .inr (0, cE O h3)), (h3, .inr (2, cT11 O))]) := hD19
  refine lv_aload_n hx hb dX0_copyFrom_56 rfl (lv_at hl 0 rfl) ?_
  refine lv_aload_n hx hb dX0_copyFrom_57 rfl (lv_at hl 1 rfl) ?_
  refine va_get (ci := 0) (v := .int (O 9)) (C := RX0) (T := TX0) (N := 12) hx hb ht inX0 hown hK.1 hP20 2 rfl rfl 7 (by decide) (ht _ q_117) (fun _ h9 => h9) rfl dX0_copyFrom_58 ?_
  refine va_put (ci := 0) (v := .int (O 9)) (ty := .int) (C := RX0) (T := TX0) (N := 12) hx hb ht inX0 tyX0 tyX0_ok nmX0 hown hK.1 hP20 hD21 hS19 0 rfl rfl 7 (by decide) (ht _ q_117) (fun _ h9 => h9) rfl (by decide +kernel) rfl rfl (Nat.le_of_ble_eq_true rfl) dX0_copyFrom_61 (fun H22 locs22 hP22 hD22 hS22 => ?_)
  have hP23 : va_P G.1 vwCl ([(h0, .inr (0, cE (upd (upd (upd (upd (upd (upd (upd (upd X 0 (O 0)) 1 (O 1)) 2 (O 2)) 3 (O 3)) 4 (O 4)) 5 (O 5)) 8 (O 8)) 9 (O 9)) h1)), (h1, .inr (2, cT11 (upd (upd (upd (upd (upd (upd (upd (upd X 0 (O 0)) 1 (O 1)) 2 (O 2)) 3 (O 3)) 4 (O 4)) 5 (O 5)) 8 (O 8)) 9 (O 9)))), (h2, .inr (0, cE O h3)), (h3, .inr (2, cT11 O))]) H22 := hP22
  have hD24 : va_D A ([(h0, .inr (0, cE (upd (upd (upd (upd (upd (upd (upd (upd X 0 (O 0)) 1 (O 1)) 2 (O 2)) 3 (O 3)) 4 (O 4)) 5 (O 5)) 8 (O 8)) 9 (O 9)) h1)), (h1, .inr (2, cT11 (upd (upd (upd (upd (upd (upd (upd (upd X 0 (O 0)) 1 (O 1)) 2 (O 2)) 3 (O 3)) 4 (O 4)) 5 (O 5)) 8 (O 8)) 9 (O 9)))), (h2, .inr (0, cE O h3)), (h3, .inr (2, cT11 O))]) := hD22
  refine lv_aload_n hx hb dX0_copyFrom_64 rfl (lv_at hl 0 rfl) ?_
  refine lv_aload_n hx hb dX0_copyFrom_65 rfl (lv_at hl 1 rfl) ?_
  refine va_get (ci := 0) (v := .int (O 6)) (C := RX0) (T := TX0) (N := 12) hx hb ht inX0 hown hK.1 hP23 2 rfl rfl 8 (by decide) (ht _ q_119) (fun _ h9 => h9) rfl dX0_copyFrom_66 ?_
  refine va_put (ci := 0) (v := .int (O 6)) (ty := .boolean) (C := RX0) (T := TX0) (N := 12) hx hb ht inX0 tyX0 tyX0_ok nmX0 hown hK.1 hP23 hD24 hS22 0 rfl rfl 8 (by decide) (ht _ q_119) (fun _ h9 => h9) rfl (by decide +kernel) (kb_n hO.1) (kb_f hO.1) (Nat.le_of_ble_eq_true rfl) dX0_copyFrom_69 (fun H25 locs25 hP25 hD25 hS25 => ?_)
  have hP26 : va_P G.1 vwCl ([(h0, .inr (0, cE (upd (upd (upd (upd (upd (upd (upd (upd (upd X 0 (O 0)) 1 (O 1)) 2 (O 2)) 3 (O 3)) 4 (O 4)) 5 (O 5)) 8 (O 8)) 9 (O 9)) 6 (O 6)) h1)), (h1, .inr (2, cT11 (upd (upd (upd (upd (upd (upd (upd (upd (upd X 0 (O 0)) 1 (O 1)) 2 (O 2)) 3 (O 3)) 4 (O 4)) 5 (O 5)) 8 (O 8)) 9 (O 9)) 6 (O 6)))), (h2, .inr (0, cE O h3)), (h3, .inr (2, cT11 O))]) H25 := hP25
  have hD27 : va_D A ([(h0, .inr (0, cE (upd (upd (upd (upd (upd (upd (upd (upd (upd X 0 (O 0)) 1 (O 1)) 2 (O 2)) 3 (O 3)) 4 (O 4)) 5 (O 5)) 8 (O 8)) 9 (O 9)) 6 (O 6)) h1)), (h1, .inr (2, cT11 (upd (upd (upd (upd (upd (upd (upd (upd (upd X 0 (O 0)) 1 (O 1)) 2 (O 2)) 3 (O 3)) 4 (O 4)) 5 (O 5)) 8 (O 8)) 9 (O 9)) 6 (O 6)))), (h2, .inr (0, cE O h3)), (h3, .inr (2, cT11 O))]) := hD25
  refine lv_aload_n hx hb dX0_copyFrom_72 rfl (lv_at hl 0 rfl) ?_
  refine lv_aload_n hx hb dX0_copyFrom_73 rfl (lv_at hl 1 rfl) ?_
  refine va_get (ci := 0) (v := .int (O 7)) (C := RX0) (T := TX0) (N := 12) hx hb ht inX0 hown hK.1 hP26 2 rfl rfl 9 (by decide) (ht _ q_122) (fun _ h9 => h9) rfl dX0_copyFrom_74 ?_
  refine va_put (ci := 0) (v := .int (O 7)) (ty := .boolean) (C := RX0) (T := TX0) (N := 12) hx hb ht inX0 tyX0 tyX0_ok nmX0 hown hK.1 hP26 hD27 hS25 0 rfl rfl 9 (by decide) (ht _ q_122) (fun _ h9 => h9) rfl (by decide +kernel) (kb_n hO.2.1) (kb_f hO.2.1) (Nat.le_of_ble_eq_true rfl) dX0_copyFrom_77 (fun H28 locs28 hP28 hD28 hS28 => ?_)
  have hP29 : va_P G.1 vwCl ([(h0, .inr (0, cE (upd (upd (upd (upd (upd (upd (upd (upd (upd (upd X 0 (O 0)) 1 (O 1)) 2 (O 2)) 3 (O 3)) 4 (O 4)) 5 (O 5)) 8 (O 8)) 9 (O 9)) 6 (O 6)) 7 (O 7)) h1)), (h1, .inr (2, cT11 (upd (upd (upd (upd (upd (upd (upd (upd (upd (upd X 0 (O 0)) 1 (O 1)) 2 (O 2)) 3 (O 3)) 4 (O 4)) 5 (O 5)) 8 (O 8)) 9 (O 9)) 6 (O 6)) 7 (O 7)))), (h2, .inr (0, cE O h3)), (h3, .inr (2, cT11 O))]) H28 := hP28
  have hD30 : va_D A ([(h0, .inr (0, cE (upd (upd (upd (upd (upd (upd (upd (upd (upd (upd X 0 (O 0)) 1 (O 1)) 2 (O 2)) 3 (O 3)) 4 (O 4)) 5 (O 5)) 8 (O 8)) 9 (O 9)) 6 (O 6)) 7 (O 7)) h1)), (h1, .inr (2, cT11 (upd (upd (upd (upd (upd (upd (upd (upd (upd (upd X 0 (O 0)) 1 (O 1)) 2 (O 2)) 3 (O 3)) 4 (O 4)) 5 (O 5)) 8 (O 8)) 9 (O 9)) 6 (O 6)) 7 (O 7)))), (h2, .inr (0, cE O h3)), (h3, .inr (2, cT11 O))]) := hD28
  refine lv_aload_n hx hb dX0_copyFrom_80 rfl (lv_at hl 0 rfl) ?_
  refine lv_aload_n hx hb dX0_copyFrom_81 rfl (lv_at hl 1 rfl) ?_
  refine va_get (ci := 0) (v := .int (O 10)) (C := RX0) (T := TX0) (N := 12) hx hb ht inX0 hown hK.1 hP29 2 rfl rfl 10 (by decide) (ht _ q_125) (fun _ h9 => h9) rfl dX0_copyFrom_82 ?_
  refine va_put (ci := 0) (v := .int (O 10)) (ty := .boolean) (C := RX0) (T := TX0) (N := 12) hx hb ht inX0 tyX0 tyX0_ok nmX0 hown hK.1 hP29 hD30 hS28 0 rfl rfl 10 (by decide) (ht _ q_125) (fun _ h9 => h9) rfl (by decide +kernel) (kb_n hO.2.2.1) (kb_f hO.2.2.1) (Nat.le_of_ble_eq_true rfl) dX0_copyFrom_85 (fun H31 locs31 hP31 hD31 hS31 => ?_)
  have hP32 : va_P G.1 vwCl ([(h0, .inr (0, cE (upd (upd (upd (upd (upd (upd (upd (upd (upd (upd (upd X 0 (O 0)) 1 (O 1)) 2 (O 2)) 3 (O 3)) 4 (O 4)) 5 (O 5)) 8 (O 8)) 9 (O 9)) 6 (O 6)) 7 (O 7)) 10 (O 10)) h1)), (h1, .inr (2, cT11 (upd (upd (upd (upd (upd (upd (upd (upd (upd (upd (upd X 0 (O 0)) 1 (O 1)) 2 (O 2)) 3 (O 3)) 4 (O 4)) 5 (O 5)) 8 (O 8)) 9 (O 9)) 6 (O 6)) 7 (O 7)) 10 (O 10)))), (h2, .inr (0, cE O h3)), (h3, .inr (2, cT11 O))]) H31 := hP31
  have hD33 : va_D A ([(h0, .inr (0, cE (upd (upd (upd (upd (upd (upd (upd (upd (upd (upd (upd X 0 (O 0)) 1 (O 1)) 2 (O 2)) 3 (O 3)) 4 (O 4)) 5 (O 5)) 8 (O 8)) 9 (O 9)) 6 (O 6)) 7 (O 7)) 10 (O 10)) h1)), (h1, .inr (2, cT11 (upd (upd (upd (upd (upd (upd (upd (upd (upd (upd (upd X 0 (O 0)) 1 (O 1)) 2 (O 2)) 3 (O 3)) 4 (O 4)) 5 (O 5)) 8 (O 8)) 9 (O 9)) 6 (O 6)) 7 (O 7)) 10 (O 10)))), (h2, .inr (0, cE O h3)), (h3, .inr (2, cT11 O))]) := hD31
  refine lv_aload_n hx hb dX0_copyFrom_88 rfl (lv_at hl 0 rfl) ?_
  refine va_get (ci := 0) (v := .ref h1) (C := RX0) (T := TX0) (N := 12) hx hb ht inX0 hown hK.1 hP32 0 rfl rfl 11 (by decide) (ht _ q_128) (fun _ h9 => h9) rfl dX0_copyFrom_89 ?_
  refine lv_aload_n hx hb dX0_copyFrom_92 rfl (lv_at hl 1 rfl) ?_
  refine va_get (ci := 0) (v := .ref h3) (C := RX0) (T := TX0) (N := 12) hx hb ht inX0 hown hK.1 hP32 2 rfl rfl 11 (by decide) (ht _ q_128) (fun _ h9 => h9) rfl dX0_copyFrom_93 ?_
  refine k_callv (kRunV (As := [.ref h3]) (rest := []) kx (c_X2_copyFrom l G (fun i => (upd (upd (upd (upd (upd (upd (upd (upd (upd (upd (upd X 0 (O 0)) 1 (O 1)) 2 (O 2)) 3 (O 3)) 4 (O 4)) 5 (O 5)) 8 (O 8)) 9 (O 9)) 6 (O 6)) 7 (O 7)) 10 (O 10)) (11 + i)) (fun i => O (11 + i)) h1 h3 hO.2.2.2) q_371 q_368 q_33 q_369 q_370 nX2_copyFrom ⟨Nat.le_of_ble_eq_true rfl, Nat.le_of_ble_eq_true rfl⟩ hK hP32 hD33 (kCtx_places _ _ [1, 3] rfl rfl) 0 2 rfl rfl rfl rfl hl.1 (Nat.le_of_ble_eq_true rfl) dX0_copyFrom_96 ⟨Nat.zero_le _, Nat.zero_le _⟩) hP32 hD33 hS31 hA (kCtx_places _ _ [1, 3] rfl rfl) (fun _ => rfl) (fun _ H34 locs34 hw hP34 hD34 hS34 => ?_)
  have hP35 : va_P G.1 vwCl ([(h0, .inr (0, cE (upd (upd (upd (upd (upd (upd (upd (upd (upd (upd (upd (upd (upd (upd (upd (upd X 0 (O 0)) 1 (O 1)) 2 (O 2)) 3 (O 3)) 4 (O 4)) 5 (O 5)) 8 (O 8)) 9 (O 9)) 6 (O 6)) 7 (O 7)) 10 (O 10)) 11 (O 11)) 12 (O 12)) 13 (O 13)) 14 (O 14)) 15 (O 15)) h1)), (h1, .inr (2, cT11 (upd (upd (upd (upd (upd (upd (upd (upd (upd (upd (upd (upd (upd (upd (upd (upd X 0 (O 0)) 1 (O 1)) 2 (O 2)) 3 (O 3)) 4 (O 4)) 5 (O 5)) 8 (O 8)) 9 (O 9)) 6 (O 6)) 7 (O 7)) 10 (O 10)) 11 (O 11)) 12 (O 12)) 13 (O 13)) 14 (O 14)) 15 (O 15)))), (h2, .inr (0, cE O h3)), (h3, .inr (2, cT11 O))]) H34 := hP34
  have hD36 : va_D A ([(h0, .inr (0, cE (upd (upd (upd (upd (upd (upd (upd (upd (upd (upd (upd (upd (upd (upd (upd (upd X 0 (O 0)) 1 (O 1)) 2 (O 2)) 3 (O 3)) 4 (O 4)) 5 (O 5)) 8 (O 8)) 9 (O 9)) 6 (O 6)) 7 (O 7)) 10 (O 10)) 11 (O 11)) 12 (O 12)) 13 (O 13)) 14 (O 14)) 15 (O 15)) h1)), (h1, .inr (2, cT11 (upd (upd (upd (upd (upd (upd (upd (upd (upd (upd (upd (upd (upd (upd (upd (upd X 0 (O 0)) 1 (O 1)) 2 (O 2)) 3 (O 3)) 4 (O 4)) 5 (O 5)) 8 (O 8)) 9 (O 9)) 6 (O 6)) 7 (O 7)) 10 (O 10)) 11 (O 11)) 12 (O 12)) 13 (O 13)) 14 (O 14)) 15 (O 15)))), (h2, .inr (0, cE O h3)), (h3, .inr (2, cT11 O))]) := hD34
  exact k_vret kx hK hP35 hD36 hS34 (u := ()) rfl trivial dX0_copyFrom_99

def r_X0_isBothUp (X : Nat → Int32) : Int32 := if X 5 = 2 then (if X 11 = 2 then 1 else 0) else 0
set_option maxHeartbeats 4000000 in
set_option maxRecDepth 100000 in
theorem c_X0_isBothUp (l : Launch) (G : kG) (X : Nat → Int32) (h0 : Nat) (h1 : Nat) : cG l G yX0_isBothUp cX0_isBothUp 1 (some .boolean) 0 [.ref h0] ([(h0, .inr (0, cE X h1)), (h1, .inr (2, cT11 X))]) (qI G (fun (r : Int32) (_ : Unit) => r = r_X0_isBothUp X) (fun _ => [(h0, .inr (0, cE X h1)), (h1, .inr (2, cT11 X))])) := by
  refine kintro (by decide) (Nat.le_of_ble_eq_true rfl) ?_
  intro p e s m args below meth c A ls kx hK hP hD hS hA hl
  have kx : kX p s m args meth c cX0_isBothUp 1 (some .boolean) RX0 := kx
  have hx := kx.1
  have hb := kx.2.1
  have hown := kx.2.2.2.2.1
  have ht := kx.2.2.2.2.2.2
  have hl : lv_has ls 1 [(0, .ref h0)] := hl
  refine lv_aload_n hx hb dX0_isBothUp_0 rfl (lv_at hl 0 rfl) ?_
  refine va_get (ci := 0) (v := .int (X 5)) (C := RX0) (T := TX0) (N := 12) hx hb ht inX0 hown hK.1 hP 0 rfl rfl 5 (by decide) (ht _ q_111) (fun _ h9 => h9) rfl dX0_isBothUp_1 ?_
  refine lv_iconst (v := 2) hx hb dX0_isBothUp_4 (by decide) ?_
  refine lv_icmp_ne (x := X 5) (y := 2) (tgt := 23) hx hb dX0_isBothUp_5 (by decide) (fun (c1 : ¬ (X 5 = 2)) => ?_) (fun (c1 : X 5 = 2) => ?_)
  · skip
    refine lv_iconst (v := 0) hx hb dX0_isBothUp_23 (by decide) ?_
    have er : r_X0_isBothUp X = 0 := by rw [r_X0_isBothUp, if_neg c1]
    exact k_zret kx hK hP hD hS (u := ()) rfl er.symm kb0 dX0_isBothUp_24
  · skip
    refine lv_aload_n hx hb dX0_isBothUp_8 rfl (lv_at hl 0 rfl) ?_
    refine va_get (ci := 0) (v := .ref h1) (C := RX0) (T := TX0) (N := 12) hx hb ht inX0 hown hK.1 hP 0 rfl rfl 11 (by decide) (ht _ q_128) (fun _ h9 => h9) rfl dX0_isBothUp_9 ?_
    refine va_get (ci := 2) (v := .int (X 11)) (C := RX2) (T := TX2) (N := 5) hx hb ht inX2 hown hK.1 hP 1 rfl rfl 0 (by decide) (ht _ q_81) (fun _ h9 => h9) rfl dX0_isBothUp_12 ?_
    refine lv_iconst (v := 2) hx hb dX0_isBothUp_15 (by decide) ?_
    refine lv_icmp_ne (x := X 11) (y := 2) (tgt := 23) hx hb dX0_isBothUp_16 (by decide) (fun (c2 : ¬ (X 11 = 2)) => ?_) (fun (c2 : X 11 = 2) => ?_)
    · skip
      refine lv_iconst (v := 0) hx hb dX0_isBothUp_23 (by decide) ?_
      have er : r_X0_isBothUp X = 0 := by rw [r_X0_isBothUp, if_pos c1, if_neg c2]
      exact k_zret kx hK hP hD hS (u := ()) rfl er.symm kb0 dX0_isBothUp_24
    · skip
      refine lv_iconst (v := 1) hx hb dX0_isBothUp_19 (by decide) ?_
      refine lv_goto (tgt := 24) hx hb dX0_isBothUp_20 (by decide) ?_
      have er : r_X0_isBothUp X = 1 := by rw [r_X0_isBothUp, if_pos c1, if_pos c2]
      exact k_zret kx hK hP hD hS (u := ()) rfl er.symm kb1 dX0_isBothUp_24
theorem kbr_X0_isBothUp (X : Nat → Int32) : kb (r_X0_isBothUp X) := by
  unfold r_X0_isBothUp
  repeat' split
  all_goals first | exact kb0 | exact kb1

def r_X0_pace (X : Nat → Int32) : Int32 := if X 5 = 2 then (kMax (X 3) (X 13)) else 9
set_option maxHeartbeats 4000000 in
set_option maxRecDepth 100000 in
theorem c_X0_pace (l : Launch) (G : kG) (X : Nat → Int32) (h0 : Nat) (h1 : Nat) : cG l G yX0_pace cX0_pace 1 (some .int) 1 [.ref h0] ([(h0, .inr (0, cE X h1)), (h1, .inr (2, cT11 X))]) (qI G (fun (r : Int32) (_ : Unit) => r = r_X0_pace X) (fun _ => [(h0, .inr (0, cE X h1)), (h1, .inr (2, cT11 X))])) := by
  refine kintro (by decide) (Nat.le_of_ble_eq_true rfl) ?_
  intro p e s m args below meth c A ls kx hK hP hD hS hA hl
  have kx : kX p s m args meth c cX0_pace 1 (some .int) RX0 := kx
  have hx := kx.1
  have hb := kx.2.1
  have hown := kx.2.2.2.2.1
  have ht := kx.2.2.2.2.2.2
  have hl : lv_has ls 1 [(0, .ref h0)] := hl
  refine lv_aload_n hx hb dX0_pace_0 rfl (lv_at hl 0 rfl) ?_
  refine va_get (ci := 0) (v := .int (X 5)) (C := RX0) (T := TX0) (N := 12) hx hb ht inX0 hown hK.1 hP 0 rfl rfl 5 (by decide) (ht _ q_111) (fun _ h9 => h9) rfl dX0_pace_1 ?_
  refine lv_iconst (v := 2) hx hb dX0_pace_4 (by decide) ?_
  refine lv_icmp_ne (x := X 5) (y := 2) (tgt := 25) hx hb dX0_pace_5 (by decide) (fun (c1 : ¬ (X 5 = 2)) => ?_) (fun (c1 : X 5 = 2) => ?_)
  · skip
    refine lv_bipush (v := 9) hx hb dX0_pace_25 (by decide) ?_
    have er : r_X0_pace X = 9 := by rw [r_X0_pace, if_neg c1]
    exact k_iret kx hK hP hD hS (u := ()) rfl er.symm dX0_pace_27
  · skip
    refine lv_aload_n hx hb dX0_pace_8 rfl (lv_at hl 0 rfl) ?_
    refine va_get (ci := 0) (v := .int (X 3)) (C := RX0) (T := TX0) (N := 12) hx hb ht inX0 hown hK.1 hP 0 rfl rfl 3 (by decide) (ht _ q_108) (fun _ h9 => h9) rfl dX0_pace_9 ?_
    refine lv_aload_n hx hb dX0_pace_12 rfl (lv_at hl 0 rfl) ?_
    refine va_get (ci := 0) (v := .ref h1) (C := RX0) (T := TX0) (N := 12) hx hb ht inX0 hown hK.1 hP 0 rfl rfl 11 (by decide) (ht _ q_128) (fun _ h9 => h9) rfl dX0_pace_13 ?_
    refine va_get (ci := 2) (v := .int (X 13)) (C := RX2) (T := TX2) (N := 5) hx hb ht inX2 hown hK.1 hP 1 rfl rfl 2 (by decide) (ht _ q_85) (fun _ h9 => h9) rfl dX0_pace_16 ?_
    refine va_mmax hx hb (by rw [kx.2.2.1, hl.1]) hown (ht _ q_337) (ht _ q_338) (ht _ q_37) (ht _ q_339) (Nat.le_of_ble_eq_true rfl) (Nat.le_of_ble_eq_true rfl) (Nat.zero_le _) (Nat.zero_le _) dX0_pace_19 ?_
    refine k_top (y := kMax (X 3) (X 13)) rfl ?_
    refine lv_goto (tgt := 27) hx hb dX0_pace_22 (by decide) ?_
    have er : r_X0_pace X = kMax (X 3) (X 13) := by rw [r_X0_pace, if_pos c1]
    exact k_iret kx hK hP hD hS (u := ()) rfl er.symm dX0_pace_27

def r_X0_limit (X : Nat → Int32) : Int32 := if (r_X0_isBothUp X) = 0 then ((X 14) * (kMax (kMax (X 4) (X 12)) 9)) else (X 14) * (kMax (X 4) (X 12))
set_option maxHeartbeats 4000000 in
set_option maxRecDepth 100000 in
theorem c_X0_limit (l : Launch) (G : kG) (X : Nat → Int32) (h0 : Nat) (h1 : Nat) : cG l G yX0_limit cX0_limit 2 (some .int) 1 [.ref h0] ([(h0, .inr (0, cE X h1)), (h1, .inr (2, cT11 X))]) (qI G (fun (r : Int32) (_ : Unit) => r = r_X0_limit X) (fun _ => [(h0, .inr (0, cE X h1)), (h1, .inr (2, cT11 X))])) := by
  refine kintro (by decide) (Nat.le_of_ble_eq_true rfl) ?_
  intro p e s m args below meth c A ls kx hK hP hD hS hA hl
  have kx : kX p s m args meth c cX0_limit 2 (some .int) RX0 := kx
  have hx := kx.1
  have hb := kx.2.1
  have hown := kx.2.2.2.2.1
  have ht := kx.2.2.2.2.2.2
  have hl : lv_has ls 2 [(0, .ref h0)] := hl
  refine lv_aload_n hx hb dX0_limit_0 rfl (lv_at hl 0 rfl) ?_
  refine va_get (ci := 0) (v := .int (X 4)) (C := RX0) (T := TX0) (N := 12) hx hb ht inX0 hown hK.1 hP 0 rfl rfl 4 (by decide) (ht _ q_109) (fun _ h9 => h9) rfl dX0_limit_1 ?_
  refine lv_aload_n hx hb dX0_limit_4 rfl (lv_at hl 0 rfl) ?_
  refine va_get (ci := 0) (v := .ref h1) (C := RX0) (T := TX0) (N := 12) hx hb ht inX0 hown hK.1 hP 0 rfl rfl 11 (by decide) (ht _ q_128) (fun _ h9 => h9) rfl dX0_limit_5 ?_
  refine va_get (ci := 2) (v := .int (X 12)) (C := RX2) (T := TX2) (N := 5) hx hb ht inX2 hown hK.1 hP 1 rfl rfl 1 (by decide) (ht _ q_83) (fun _ h9 => h9) rfl dX0_limit_8 ?_
  refine va_mmax hx hb (by rw [kx.2.2.1, hl.1]) hown (ht _ q_337) (ht _ q_338) (ht _ q_37) (ht _ q_339) (Nat.le_of_ble_eq_true rfl) (Nat.le_of_ble_eq_true rfl) (Nat.zero_le _) (Nat.zero_le _) dX0_limit_11 ?_
  refine k_top (y := kMax (X 4) (X 12)) rfl ?_
  refine lv_istore_n (lv' := [(1, .int (kMax (X 4) (X 12))), (0, .ref h0)]) hx hb dX0_limit_14 rfl hl (by decide) rfl (fun ls1 hl1 => ?_)
  refine lv_aload_n hx hb dX0_limit_15 rfl (lv_at hl1 1 rfl) ?_
  refine va_get (ci := 0) (v := .ref h1) (C := RX0) (T := TX0) (N := 12) hx hb ht inX0 hown hK.1 hP 0 rfl rfl 11 (by decide) (ht _ q_128) (fun _ h9 => h9) rfl dX0_limit_16 ?_
  refine va_get (ci := 2) (v := .int (X 14)) (C := RX2) (T := TX2) (N := 5) hx hb ht inX2 hown hK.1 hP 1 rfl rfl 3 (by decide) (ht _ q_87) (fun _ h9 => h9) rfl dX0_limit_19 ?_
  refine lv_aload_n hx hb dX0_limit_22 rfl (lv_at hl1 1 rfl) ?_
  refine k_calli (kRunV (As := []) (rest := [.int (X 14)]) kx (c_X0_isBothUp l G X h0 h1) q_395 q_392 q_32 q_393 q_394 nX0_isBothUp ⟨Nat.le_of_ble_eq_true rfl, Nat.le_of_ble_eq_true rfl⟩ hK hP hD (kCtx_all _) 0 0 rfl rfl rfl rfl hl1.1 (Nat.le_of_ble_eq_true rfl) dX0_limit_23 ⟨Nat.zero_le _, Nat.zero_le _⟩) hP hD hS hA (kCtx_all _) (fun _ => rfl) (fun r1 _ H2 locs2 hw hP2 hD2 hS2 => ?_)
  have hr1 : r_X0_isBothUp X = r1 := (show r1 = r_X0_isBothUp X from hw).symm
  have hP3 : va_P G.1 vwCl ([(h0, .inr (0, cE X h1)), (h1, .inr (2, cT11 X))]) H2 := hP2
  have hD4 : va_D A ([(h0, .inr (0, cE X h1)), (h1, .inr (2, cT11 X))]) := hD2
  refine lv_if_eq (x := r1) (tgt := 33) hx hb dX0_limit_26 (by decide) (fun (c2 : r1 = 0) => ?_) (fun (c2 : ¬ (r1 = 0)) => ?_)
  · skip
    refine lv_iload_n hx hb dX0_limit_33 rfl (lv_at hl1 0 rfl) ?_
    refine lv_bipush (v := 9) hx hb dX0_limit_34 (by decide) ?_
    refine va_mmax hx hb (by rw [kx.2.2.1, hl1.1]) hown (ht _ q_337) (ht _ q_338) (ht _ q_37) (ht _ q_339) (Nat.le_of_ble_eq_true rfl) (Nat.le_of_ble_eq_true rfl) (Nat.zero_le _) (Nat.zero_le _) dX0_limit_36 ?_
    refine k_top (y := kMax (kMax (X 4) (X 12)) 9) rfl ?_
    refine lv_imul hx hb dX0_limit_39 ?_
    have er : r_X0_limit X = (X 14) * (kMax (kMax (X 4) (X 12)) 9) := by rw [r_X0_limit]; (try rw [hr1]); rw [if_pos c2]
    exact k_iret kx hK hP3 hD4 hS2 (u := ()) rfl er.symm dX0_limit_40
  · skip
    refine lv_iload_n hx hb dX0_limit_29 rfl (lv_at hl1 0 rfl) ?_
    refine lv_goto (tgt := 39) hx hb dX0_limit_30 (by decide) ?_
    refine lv_imul hx hb dX0_limit_39 ?_
    have er : r_X0_limit X = (X 14) * (kMax (X 4) (X 12)) := by rw [r_X0_limit]; (try rw [hr1]); rw [if_neg c2]
    exact k_iret kx hK hP3 hD4 hS2 (u := ()) rfl er.symm dX0_limit_40

def r_X0_numberOf (X : Nat → Int32) (p0 : Int32) : Int32 := if p0 = 0 then (X 0) else if p0 = 1 then (X 1) else if p0 = 2 then (X 2) else if p0 = 3 then (X 3) else if p0 = 4 then (X 4) else if p0 = 5 then (X 5) else if p0 = 6 then (r_X6_oneIf (X 6)) else if p0 = 7 then (r_X6_oneIf (X 7)) else if p0 = 8 then (X 8) else if p0 = 9 then (X 9) else if p0 = 10 then (r_X0_pace X) else r_X0_limit X
set_option maxHeartbeats 4000000 in
set_option maxRecDepth 100000 in
theorem c_X0_numberOf (l : Launch) (G : kG) (X : Nat → Int32) (h0 : Nat) (h1 : Nat) (p0 : Int32) : cG l G yX0_numberOf cX0_numberOf 2 (some .int) 2 [.ref h0, .int p0] ([(h0, .inr (0, cE X h1)), (h1, .inr (2, cT11 X))]) (qI G (fun (r : Int32) (_ : Unit) => r = r_X0_numberOf X p0) (fun _ => [(h0, .inr (0, cE X h1)), (h1, .inr (2, cT11 X))])) := by
  refine kintro (by decide) (Nat.le_of_ble_eq_true rfl) ?_
  intro p e s m args below meth c A ls kx hK hP hD hS hA hl
  have kx : kX p s m args meth c cX0_numberOf 2 (some .int) RX0 := kx
  have hx := kx.1
  have hb := kx.2.1
  have hown := kx.2.2.2.2.1
  have ht := kx.2.2.2.2.2.2
  have hl : lv_has ls 2 [(0, .ref h0), (1, .int p0)] := hl
  refine lv_iload_n hx hb dX0_numberOf_0 rfl (lv_at hl 1 rfl) ?_
  by_cases c1 : p0 = 0
  · skip
    refine lv_tableIn (off := 59) (tgt := 60) hx hb dX0_numberOf_1 (by rw [c1]; decide) (by rw [c1]; decide) (by rw [c1]; rfl) (by decide) ?_
    refine lv_aload_n hx hb dX0_numberOf_60 rfl (lv_at hl 0 rfl) ?_
    refine va_get (ci := 0) (v := .int (X 0)) (C := RX0) (T := TX0) (N := 12) hx hb ht inX0 hown hK.1 hP 0 rfl rfl 0 (by decide) (ht _ q_101) (fun _ h9 => h9) rfl dX0_numberOf_61 ?_
    have er : r_X0_numberOf X p0 = X 0 := by rw [r_X0_numberOf, if_pos c1]
    exact k_iret kx hK hP hD hS (u := ()) rfl er.symm dX0_numberOf_64
  · skip
    by_cases c2 : p0 = 1
    · skip
      refine lv_tableIn (off := 64) (tgt := 65) hx hb dX0_numberOf_1 (by rw [c2]; decide) (by rw [c2]; decide) (by rw [c2]; rfl) (by decide) ?_
      refine lv_aload_n hx hb dX0_numberOf_65 rfl (lv_at hl 0 rfl) ?_
      refine va_get (ci := 0) (v := .int (X 1)) (C := RX0) (T := TX0) (N := 12) hx hb ht inX0 hown hK.1 hP 0 rfl rfl 1 (by decide) (ht _ q_103) (fun _ h9 => h9) rfl dX0_numberOf_66 ?_
      have er : r_X0_numberOf X p0 = X 1 := by rw [r_X0_numberOf, if_neg c1, if_pos c2]
      exact k_iret kx hK hP hD hS (u := ()) rfl er.symm dX0_numberOf_69
    · skip
      by_cases c3 : p0 = 2
      · skip
        refine lv_tableIn (off := 69) (tgt := 70) hx hb dX0_numberOf_1 (by rw [c3]; decide) (by rw [c3]; decide) (by rw [c3]; rfl) (by decide) ?_
        refine lv_aload_n hx hb dX0_numberOf_70 rfl (lv_at hl 0 rfl) ?_
        refine va_get (ci := 0) (v := .int (X 2)) (C := RX0) (T := TX0) (N := 12) hx hb ht inX0 hown hK.1 hP 0 rfl rfl 2 (by decide) (ht _ q_106) (fun _ h9 => h9) rfl dX0_numberOf_71 ?_
        have er : r_X0_numberOf X p0 = X 2 := by rw [r_X0_numberOf, if_neg c1, if_neg c2, if_pos c3]
        exact k_iret kx hK hP hD hS (u := ()) rfl er.symm dX0_numberOf_74
      · skip
        by_cases c4 : p0 = 3
        · skip
          refine lv_tableIn (off := 74) (tgt := 75) hx hb dX0_numberOf_1 (by rw [c4]; decide) (by rw [c4]; decide) (by rw [c4]; rfl) (by decide) ?_
          refine lv_aload_n hx hb dX0_numberOf_75 rfl (lv_at hl 0 rfl) ?_
          refine va_get (ci := 0) (v := .int (X 3)) (C := RX0) (T := TX0) (N := 12) hx hb ht inX0 hown hK.1 hP 0 rfl rfl 3 (by decide) (ht _ q_108) (fun _ h9 => h9) rfl dX0_numberOf_76 ?_
          have er : r_X0_numberOf X p0 = X 3 := by rw [r_X0_numberOf, if_neg c1, if_neg c2, if_neg c3, if_pos c4]
          exact k_iret kx hK hP hD hS (u := ()) rfl er.symm dX0_numberOf_79
        · skip
          by_cases c5 : p0 = 4
          · skip
            refine lv_tableIn (off := 79) (tgt := 80) hx hb dX0_numberOf_1 (by rw [c5]; decide) (by rw [c5]; decide) (by rw [c5]; rfl) (by decide) ?_
            refine lv_aload_n hx hb dX0_numberOf_80 rfl (lv_at hl 0 rfl) ?_
            refine va_get (ci := 0) (v := .int (X 4)) (C := RX0) (T := TX0) (N := 12) hx hb ht inX0 hown hK.1 hP 0 rfl rfl 4 (by decide) (ht _ q_109) (fun _ h9 => h9) rfl dX0_numberOf_81 ?_
            have er : r_X0_numberOf X p0 = X 4 := by rw [r_X0_numberOf, if_neg c1, if_neg c2, if_neg c3, if_neg c4, if_pos c5]
            exact k_iret kx hK hP hD hS (u := ()) rfl er.symm dX0_numberOf_84
          · skip
            by_cases c6 : p0 = 5
            · skip
              refine lv_tableIn (off := 84) (tgt := 85) hx hb dX0_numberOf_1 (by rw [c6]; decide) (by rw [c6]; decide) (by rw [c6]; rfl) (by decide) ?_
              refine lv_aload_n hx hb dX0_numberOf_85 rfl (lv_at hl 0 rfl) ?_
              refine va_get (ci := 0) (v := .int (X 5)) (C := RX0) (T := TX0) (N := 12) hx hb ht inX0 hown hK.1 hP 0 rfl rfl 5 (by decide) (ht _ q_111) (fun _ h9 => h9) rfl dX0_numberOf_86 ?_
              have er : r_X0_numberOf X p0 = X 5 := by rw [r_X0_numberOf, if_neg c1, if_neg c2, if_neg c3, if_neg c4, if_neg c5, if_pos c6]
              exact k_iret kx hK hP hD hS (u := ()) rfl er.symm dX0_numberOf_89
            · skip
              by_cases c7 : p0 = 6
              · skip
                refine lv_tableIn (off := 89) (tgt := 90) hx hb dX0_numberOf_1 (by rw [c7]; decide) (by rw [c7]; decide) (by rw [c7]; rfl) (by decide) ?_
                refine lv_aload_n hx hb dX0_numberOf_90 rfl (lv_at hl 0 rfl) ?_
                refine va_get (ci := 0) (v := .int (X 6)) (C := RX0) (T := TX0) (N := 12) hx hb ht inX0 hown hK.1 hP 0 rfl rfl 8 (by decide) (ht _ q_119) (fun _ h9 => h9) rfl dX0_numberOf_91 ?_
                refine k_calli (kRunSN (As := [.int (X 6)]) (rest := []) kx (c_X6_oneIf l G (X 6)) q_469 hK.2.2.2.2.2.2.2.1 q_29 q_468 nX6_oneIf ⟨Nat.le_of_ble_eq_true rfl, Nat.le_of_ble_eq_true rfl⟩ hK hP hD (kCtx_nil _) rfl hl.1 (Nat.le_of_ble_eq_true rfl) dX0_numberOf_94 ⟨Nat.zero_le _, Nat.zero_le _⟩) hP hD hS hA (kCtx_nil _) (fun _ => rfl) (fun r8 _ H1 locs1 hw hP1 hD1 hS1 => ?_)
                have hr8 : r_X6_oneIf (X 6) = r8 := (show r8 = r_X6_oneIf (X 6) from hw).symm
                have hP2 : va_P G.1 vwCl ([(h0, .inr (0, cE X h1)), (h1, .inr (2, cT11 X))]) H1 := hP1
                have hD3 : va_D A ([(h0, .inr (0, cE X h1)), (h1, .inr (2, cT11 X))]) := hD1
                have er : r_X0_numberOf X p0 = r8 := by rw [r_X0_numberOf]; (try rw [hr8]); rw [if_neg c1, if_neg c2, if_neg c3, if_neg c4, if_neg c5, if_neg c6, if_pos c7]
                exact k_iret kx hK hP2 hD3 hS1 (u := ()) rfl er.symm dX0_numberOf_97
              · skip
                by_cases c9 : p0 = 7
                · skip
                  refine lv_tableIn (off := 97) (tgt := 98) hx hb dX0_numberOf_1 (by rw [c9]; decide) (by rw [c9]; decide) (by rw [c9]; rfl) (by decide) ?_
                  refine lv_aload_n hx hb dX0_numberOf_98 rfl (lv_at hl 0 rfl) ?_
                  refine va_get (ci := 0) (v := .int (X 7)) (C := RX0) (T := TX0) (N := 12) hx hb ht inX0 hown hK.1 hP 0 rfl rfl 9 (by decide) (ht _ q_122) (fun _ h9 => h9) rfl dX0_numberOf_99 ?_
                  refine k_calli (kRunSN (As := [.int (X 7)]) (rest := []) kx (c_X6_oneIf l G (X 7)) q_469 hK.2.2.2.2.2.2.2.1 q_29 q_468 nX6_oneIf ⟨Nat.le_of_ble_eq_true rfl, Nat.le_of_ble_eq_true rfl⟩ hK hP hD (kCtx_nil _) rfl hl.1 (Nat.le_of_ble_eq_true rfl) dX0_numberOf_102 ⟨Nat.zero_le _, Nat.zero_le _⟩) hP hD hS hA (kCtx_nil _) (fun _ => rfl) (fun r10 _ H4 locs4 hw hP4 hD4 hS4 => ?_)
                  have hr10 : r_X6_oneIf (X 7) = r10 := (show r10 = r_X6_oneIf (X 7) from hw).symm
                  have hP5 : va_P G.1 vwCl ([(h0, .inr (0, cE X h1)), (h1, .inr (2, cT11 X))]) H4 := hP4
                  have hD6 : va_D A ([(h0, .inr (0, cE X h1)), (h1, .inr (2, cT11 X))]) := hD4
                  have er : r_X0_numberOf X p0 = r10 := by rw [r_X0_numberOf]; (try rw [hr10]); rw [if_neg c1, if_neg c2, if_neg c3, if_neg c4, if_neg c5, if_neg c6, if_neg c7, if_pos c9]
                  exact k_iret kx hK hP5 hD6 hS4 (u := ()) rfl er.symm dX0_numberOf_105
                · skip
                  by_cases c11 : p0 = 8
                  · skip
                    refine lv_tableIn (off := 105) (tgt := 106) hx hb dX0_numberOf_1 (by rw [c11]; decide) (by rw [c11]; decide) (by rw [c11]; rfl) (by decide) ?_
                    refine lv_aload_n hx hb dX0_numberOf_106 rfl (lv_at hl 0 rfl) ?_
                    refine va_get (ci := 0) (v := .int (X 8)) (C := RX0) (T := TX0) (N := 12) hx hb ht inX0 hown hK.1 hP 0 rfl rfl 6 (by decide) (ht _ q_116) (fun _ h9 => h9) rfl dX0_numberOf_107 ?_
                    have er : r_X0_numberOf X p0 = X 8 := by rw [r_X0_numberOf, if_neg c1, if_neg c2, if_neg c3, if_neg c4, if_neg c5, if_neg c6, if_neg c7, if_neg c9, if_pos c11]
                    exact k_iret kx hK hP hD hS (u := ()) rfl er.symm dX0_numberOf_110
                  · skip
                    by_cases c12 : p0 = 9
                    · skip
                      refine lv_tableIn (off := 110) (tgt := 111) hx hb dX0_numberOf_1 (by rw [c12]; decide) (by rw [c12]; decide) (by rw [c12]; rfl) (by decide) ?_
                      refine lv_aload_n hx hb dX0_numberOf_111 rfl (lv_at hl 0 rfl) ?_
                      refine va_get (ci := 0) (v := .int (X 9)) (C := RX0) (T := TX0) (N := 12) hx hb ht inX0 hown hK.1 hP 0 rfl rfl 7 (by decide) (ht _ q_117) (fun _ h9 => h9) rfl dX0_numberOf_112 ?_
                      have er : r_X0_numberOf X p0 = X 9 := by rw [r_X0_numberOf, if_neg c1, if_neg c2, if_neg c3, if_neg c4, if_neg c5, if_neg c6, if_neg c7, if_neg c9, if_neg c11, if_pos c12]
                      exact k_iret kx hK hP hD hS (u := ()) rfl er.symm dX0_numberOf_115
                    · skip
                      by_cases c13 : p0 = 10
                      · skip
                        refine lv_tableIn (off := 115) (tgt := 116) hx hb dX0_numberOf_1 (by rw [c13]; decide) (by rw [c13]; decide) (by rw [c13]; rfl) (by decide) ?_
                        refine lv_aload_n hx hb dX0_numberOf_116 rfl (lv_at hl 0 rfl) ?_
                        refine k_calli (kRunV (As := []) (rest := []) kx (c_X0_pace l G X h0 h1) q_420 q_470 q_32 q_418 q_419 nX0_pace ⟨Nat.le_of_ble_eq_true rfl, Nat.le_of_ble_eq_true rfl⟩ hK hP hD (kCtx_all _) 0 0 rfl rfl rfl rfl hl.1 (Nat.le_of_ble_eq_true rfl) dX0_numberOf_117 ⟨Nat.zero_le _, Nat.zero_le _⟩) hP hD hS hA (kCtx_all _) (fun _ => rfl) (fun r14 _ H7 locs7 hw hP7 hD7 hS7 => ?_)
                        have hr14 : r_X0_pace X = r14 := (show r14 = r_X0_pace X from hw).symm
                        have hP8 : va_P G.1 vwCl ([(h0, .inr (0, cE X h1)), (h1, .inr (2, cT11 X))]) H7 := hP7
                        have hD9 : va_D A ([(h0, .inr (0, cE X h1)), (h1, .inr (2, cT11 X))]) := hD7
                        have er : r_X0_numberOf X p0 = r14 := by rw [r_X0_numberOf]; (try rw [hr14]); rw [if_neg c1, if_neg c2, if_neg c3, if_neg c4, if_neg c5, if_neg c6, if_neg c7, if_neg c9, if_neg c11, if_neg c12, if_pos c13]
                        exact k_iret kx hK hP8 hD9 hS7 (u := ()) rfl er.symm dX0_numberOf_120
                      · skip
                        have nc1 := lv_neT (a := 0) c1 (by decide)
                        have nc2 := lv_neT (a := 1) c2 (by decide)
                        have nc3 := lv_neT (a := 2) c3 (by decide)
                        have nc4 := lv_neT (a := 3) c4 (by decide)
                        have nc5 := lv_neT (a := 4) c5 (by decide)
                        have nc6 := lv_neT (a := 5) c6 (by decide)
                        have nc7 := lv_neT (a := 6) c7 (by decide)
                        have nc9 := lv_neT (a := 7) c9 (by decide)
                        have nc11 := lv_neT (a := 8) c11 (by decide)
                        have nc12 := lv_neT (a := 9) c12 (by decide)
                        have nc13 := lv_neT (a := 10) c13 (by decide)
                        refine lv_tableOut (tgt := 121) hx hb dX0_numberOf_1 (by omega) (by decide) ?_
                        refine lv_aload_n hx hb dX0_numberOf_121 rfl (lv_at hl 0 rfl) ?_
                        refine k_calli (kRunV (As := []) (rest := []) kx (c_X0_limit l G X h0 h1) q_399 q_396 q_32 q_397 q_398 nX0_limit ⟨Nat.le_of_ble_eq_true rfl, Nat.le_of_ble_eq_true rfl⟩ hK hP hD (kCtx_all _) 0 0 rfl rfl rfl rfl hl.1 (Nat.le_of_ble_eq_true rfl) dX0_numberOf_122 ⟨Nat.zero_le _, Nat.zero_le _⟩) hP hD hS hA (kCtx_all _) (fun _ => rfl) (fun r15 _ H10 locs10 hw hP10 hD10 hS10 => ?_)
                        have hr15 : r_X0_limit X = r15 := (show r15 = r_X0_limit X from hw).symm
                        have hP11 : va_P G.1 vwCl ([(h0, .inr (0, cE X h1)), (h1, .inr (2, cT11 X))]) H10 := hP10
                        have hD12 : va_D A ([(h0, .inr (0, cE X h1)), (h1, .inr (2, cT11 X))]) := hD10
                        have er : r_X0_numberOf X p0 = r15 := by rw [r_X0_numberOf]; (try rw [hr15]); rw [if_neg c1, if_neg c2, if_neg c3, if_neg c4, if_neg c5, if_neg c6, if_neg c7, if_neg c9, if_neg c11, if_neg c12, if_neg c13]
                        exact k_iret kx hK hP11 hD12 hS10 (u := ()) rfl er.symm dX0_numberOf_125

def r_X0_isStill (X : Nat → Int32) : Int32 := if X 15 = 0 then 0 else if (r_X0_isBothUp X) = 0 then 0 else if X 6 = 0 then 1 else 0
set_option maxHeartbeats 4000000 in
set_option maxRecDepth 100000 in
theorem c_X0_isStill (l : Launch) (G : kG) (X : Nat → Int32) (h0 : Nat) (h1 : Nat) : cG l G yX0_isStill cX0_isStill 1 (some .boolean) 1 [.ref h0] ([(h0, .inr (0, cE X h1)), (h1, .inr (2, cT11 X))]) (qI G (fun (r : Int32) (_ : Unit) => r = r_X0_isStill X) (fun _ => [(h0, .inr (0, cE X h1)), (h1, .inr (2, cT11 X))])) := by
  refine kintro (by decide) (Nat.le_of_ble_eq_true rfl) ?_
  intro p e s m args below meth c A ls kx hK hP hD hS hA hl
  have kx : kX p s m args meth c cX0_isStill 1 (some .boolean) RX0 := kx
  have hx := kx.1
  have hb := kx.2.1
  have hown := kx.2.2.2.2.1
  have ht := kx.2.2.2.2.2.2
  have hl : lv_has ls 1 [(0, .ref h0)] := hl
  refine lv_aload_n hx hb dX0_isStill_0 rfl (lv_at hl 0 rfl) ?_
  refine va_get (ci := 0) (v := .ref h1) (C := RX0) (T := TX0) (N := 12) hx hb ht inX0 hown hK.1 hP 0 rfl rfl 11 (by decide) (ht _ q_128) (fun _ h9 => h9) rfl dX0_isStill_1 ?_
  refine va_get (ci := 2) (v := .int (X 15)) (C := RX2) (T := TX2) (N := 5) hx hb ht inX2 hown hK.1 hP 1 rfl rfl 4 (by decide) (ht _ q_89) (fun _ h9 => h9) rfl dX0_isStill_4 ?_
  refine lv_if_eq (x := X 15) (tgt := 28) hx hb dX0_isStill_7 (by decide) (fun (c1 : X 15 = 0) => ?_) (fun (c1 : ¬ (X 15 = 0)) => ?_)
  · skip
    refine lv_iconst (v := 0) hx hb dX0_isStill_28 (by decide) ?_
    have er : r_X0_isStill X = 0 := by rw [r_X0_isStill, if_pos c1]
    exact k_zret kx hK hP hD hS (u := ()) rfl er.symm kb0 dX0_isStill_29
  · skip
    refine lv_aload_n hx hb dX0_isStill_10 rfl (lv_at hl 0 rfl) ?_
    refine k_calli (kRunV (As := []) (rest := []) kx (c_X0_isBothUp l G X h0 h1) q_395 q_392 q_32 q_393 q_394 nX0_isBothUp ⟨Nat.le_of_ble_eq_true rfl, Nat.le_of_ble_eq_true rfl⟩ hK hP hD (kCtx_all _) 0 0 rfl rfl rfl rfl hl.1 (Nat.le_of_ble_eq_true rfl) dX0_isStill_11 ⟨Nat.zero_le _, Nat.zero_le _⟩) hP hD hS hA (kCtx_all _) (fun _ => rfl) (fun r2 _ H1 locs1 hw hP1 hD1 hS1 => ?_)
    have hr2 : r_X0_isBothUp X = r2 := (show r2 = r_X0_isBothUp X from hw).symm
    have hP2 : va_P G.1 vwCl ([(h0, .inr (0, cE X h1)), (h1, .inr (2, cT11 X))]) H1 := hP1
    have hD3 : va_D A ([(h0, .inr (0, cE X h1)), (h1, .inr (2, cT11 X))]) := hD1
    refine lv_if_eq (x := r2) (tgt := 28) hx hb dX0_isStill_14 (by decide) (fun (c3 : r2 = 0) => ?_) (fun (c3 : ¬ (r2 = 0)) => ?_)
    · skip
      refine lv_iconst (v := 0) hx hb dX0_isStill_28 (by decide) ?_
      have er : r_X0_isStill X = 0 := by rw [r_X0_isStill]; (try rw [hr2]); rw [if_neg c1, if_pos c3]
      exact k_zret kx hK hP2 hD3 hS1 (u := ()) rfl er.symm kb0 dX0_isStill_29
    · skip
      refine lv_aload_n hx hb dX0_isStill_17 rfl (lv_at hl 0 rfl) ?_
      refine va_get (ci := 0) (v := .int (X 6)) (C := RX0) (T := TX0) (N := 12) hx hb ht inX0 hown hK.1 hP2 0 rfl rfl 8 (by decide) (ht _ q_119) (fun _ h9 => h9) rfl dX0_isStill_18 ?_
      refine lv_if_ne (x := X 6) (tgt := 28) hx hb dX0_isStill_21 (by decide) (fun (c4 : ¬ (X 6 = 0)) => ?_) (fun (c4 : X 6 = 0) => ?_)
      · skip
        refine lv_iconst (v := 0) hx hb dX0_isStill_28 (by decide) ?_
        have er : r_X0_isStill X = 0 := by rw [r_X0_isStill]; (try rw [hr2]); rw [if_neg c1, if_neg c3, if_neg c4]
        exact k_zret kx hK hP2 hD3 hS1 (u := ()) rfl er.symm kb0 dX0_isStill_29
      · skip
        refine lv_iconst (v := 1) hx hb dX0_isStill_24 (by decide) ?_
        refine lv_goto (tgt := 29) hx hb dX0_isStill_25 (by decide) ?_
        have er : r_X0_isStill X = 1 := by rw [r_X0_isStill]; (try rw [hr2]); rw [if_neg c1, if_neg c3, if_pos c4]
        exact k_zret kx hK hP2 hD3 hS1 (u := ()) rfl er.symm kb1 dX0_isStill_29
theorem kbr_X0_isStill (X : Nat → Int32) : kb (r_X0_isStill X) := by
  unfold r_X0_isStill
  repeat' split
  all_goals first | exact kb0 | exact kb1

def r_X0_trusts (X : Nat → Int32) : Int32 := if X 7 = 0 then 0 else if (r_X0_isBothUp X) = 0 then 0 else if X 6 = 0 then 1 else 0
set_option maxHeartbeats 4000000 in
set_option maxRecDepth 100000 in
theorem c_X0_trusts (l : Launch) (G : kG) (X : Nat → Int32) (h0 : Nat) (h1 : Nat) : cG l G yX0_trusts cX0_trusts 1 (some .boolean) 1 [.ref h0] ([(h0, .inr (0, cE X h1)), (h1, .inr (2, cT11 X))]) (qI G (fun (r : Int32) (_ : Unit) => r = r_X0_trusts X) (fun _ => [(h0, .inr (0, cE X h1)), (h1, .inr (2, cT11 X))])) := by
  refine kintro (by decide) (Nat.le_of_ble_eq_true rfl) ?_
  intro p e s m args below meth c A ls kx hK hP hD hS hA hl
  have kx : kX p s m args meth c cX0_trusts 1 (some .boolean) RX0 := kx
  have hx := kx.1
  have hb := kx.2.1
  have hown := kx.2.2.2.2.1
  have ht := kx.2.2.2.2.2.2
  have hl : lv_has ls 1 [(0, .ref h0)] := hl
  refine lv_aload_n hx hb dX0_trusts_0 rfl (lv_at hl 0 rfl) ?_
  refine va_get (ci := 0) (v := .int (X 7)) (C := RX0) (T := TX0) (N := 12) hx hb ht inX0 hown hK.1 hP 0 rfl rfl 9 (by decide) (ht _ q_122) (fun _ h9 => h9) rfl dX0_trusts_1 ?_
  refine lv_if_eq (x := X 7) (tgt := 25) hx hb dX0_trusts_4 (by decide) (fun (c1 : X 7 = 0) => ?_) (fun (c1 : ¬ (X 7 = 0)) => ?_)
  · skip
    refine lv_iconst (v := 0) hx hb dX0_trusts_25 (by decide) ?_
    have er : r_X0_trusts X = 0 := by rw [r_X0_trusts, if_pos c1]
    exact k_zret kx hK hP hD hS (u := ()) rfl er.symm kb0 dX0_trusts_26
  · skip
    refine lv_aload_n hx hb dX0_trusts_7 rfl (lv_at hl 0 rfl) ?_
    refine k_calli (kRunV (As := []) (rest := []) kx (c_X0_isBothUp l G X h0 h1) q_395 q_392 q_32 q_393 q_394 nX0_isBothUp ⟨Nat.le_of_ble_eq_true rfl, Nat.le_of_ble_eq_true rfl⟩ hK hP hD (kCtx_all _) 0 0 rfl rfl rfl rfl hl.1 (Nat.le_of_ble_eq_true rfl) dX0_trusts_8 ⟨Nat.zero_le _, Nat.zero_le _⟩) hP hD hS hA (kCtx_all _) (fun _ => rfl) (fun r2 _ H1 locs1 hw hP1 hD1 hS1 => ?_)
    have hr2 : r_X0_isBothUp X = r2 := (show r2 = r_X0_isBothUp X from hw).symm
    have hP2 : va_P G.1 vwCl ([(h0, .inr (0, cE X h1)), (h1, .inr (2, cT11 X))]) H1 := hP1
    have hD3 : va_D A ([(h0, .inr (0, cE X h1)), (h1, .inr (2, cT11 X))]) := hD1
    refine lv_if_eq (x := r2) (tgt := 25) hx hb dX0_trusts_11 (by decide) (fun (c3 : r2 = 0) => ?_) (fun (c3 : ¬ (r2 = 0)) => ?_)
    · skip
      refine lv_iconst (v := 0) hx hb dX0_trusts_25 (by decide) ?_
      have er : r_X0_trusts X = 0 := by rw [r_X0_trusts]; (try rw [hr2]); rw [if_neg c1, if_pos c3]
      exact k_zret kx hK hP2 hD3 hS1 (u := ()) rfl er.symm kb0 dX0_trusts_26
    · skip
      refine lv_aload_n hx hb dX0_trusts_14 rfl (lv_at hl 0 rfl) ?_
      refine va_get (ci := 0) (v := .int (X 6)) (C := RX0) (T := TX0) (N := 12) hx hb ht inX0 hown hK.1 hP2 0 rfl rfl 8 (by decide) (ht _ q_119) (fun _ h9 => h9) rfl dX0_trusts_15 ?_
      refine lv_if_ne (x := X 6) (tgt := 25) hx hb dX0_trusts_18 (by decide) (fun (c4 : ¬ (X 6 = 0)) => ?_) (fun (c4 : X 6 = 0) => ?_)
      · skip
        refine lv_iconst (v := 0) hx hb dX0_trusts_25 (by decide) ?_
        have er : r_X0_trusts X = 0 := by rw [r_X0_trusts]; (try rw [hr2]); rw [if_neg c1, if_neg c3, if_neg c4]
        exact k_zret kx hK hP2 hD3 hS1 (u := ()) rfl er.symm kb0 dX0_trusts_26
      · skip
        refine lv_iconst (v := 1) hx hb dX0_trusts_21 (by decide) ?_
        refine lv_goto (tgt := 26) hx hb dX0_trusts_22 (by decide) ?_
        have er : r_X0_trusts X = 1 := by rw [r_X0_trusts]; (try rw [hr2]); rw [if_neg c1, if_neg c3, if_pos c4]
        exact k_zret kx hK hP2 hD3 hS1 (u := ()) rfl er.symm kb1 dX0_trusts_26
theorem kbr_X0_trusts (X : Nat → Int32) : kb (r_X0_trusts X) := by
  unfold r_X0_trusts
  repeat' split
  all_goals first | exact kb0 | exact kb1

set_option maxHeartbeats 4000000 in
set_option maxRecDepth 100000 in
theorem c_X0_endPoll (l : Launch) (G : kG) (X : Nat → Int32) (h0 : Nat) (h1 : Nat) : cG l G yX0_endPoll cX0_endPoll 1 none 0 [.ref h0] ([(h0, .inr (0, cE X h1)), (h1, .inr (2, cT11 X))]) (qV G (fun _ : Unit => True) (fun _ => [(h0, .inr (0, cE (upd (upd (upd X 6 0) 3 (X 0)) 4 (X 1)) h1)), (h1, .inr (2, cT11 (upd (upd (upd X 6 0) 3 (X 0)) 4 (X 1))))])) := by
  refine kintro (by decide) (Nat.le_of_ble_eq_true rfl) ?_
  intro p e s m args below meth c A ls kx hK hP hD hS hA hl
  have kx : kX p s m args meth c cX0_endPoll 1 none RX0 := kx
  have hx := kx.1
  have hb := kx.2.1
  have hown := kx.2.2.2.2.1
  have ht := kx.2.2.2.2.2.2
  have hl : lv_has ls 1 [(0, .ref h0)] := hl
  refine lv_aload_n hx hb dX0_endPoll_0 rfl (lv_at hl 0 rfl) ?_
  refine lv_iconst (v := 0) hx hb dX0_endPoll_1 (by decide) ?_
  refine va_put (ci := 0) (v := .int 0) (ty := .boolean) (C := RX0) (T := TX0) (N := 12) hx hb ht inX0 tyX0 tyX0_ok nmX0 hown hK.1 hP hD hS 0 rfl rfl 8 (by decide) (ht _ q_119) (fun _ h9 => h9) rfl (by decide +kernel) (kb_n kb0) (kb_f kb0) (Nat.le_of_ble_eq_true rfl) dX0_endPoll_2 (fun H1 locs1 hP1 hD1 hS1 => ?_)
  have hP2 : va_P G.1 vwCl ([(h0, .inr (0, cE (upd X 6 0) h1)), (h1, .inr (2, cT11 (upd X 6 0)))]) H1 := hP1
  have hD3 : va_D A ([(h0, .inr (0, cE (upd X 6 0) h1)), (h1, .inr (2, cT11 (upd X 6 0)))]) := hD1
  refine lv_aload_n hx hb dX0_endPoll_5 rfl (lv_at hl 0 rfl) ?_
  refine lv_aload_n hx hb dX0_endPoll_6 rfl (lv_at hl 0 rfl) ?_
  refine va_get (ci := 0) (v := .int (X 0)) (C := RX0) (T := TX0) (N := 12) hx hb ht inX0 hown hK.1 hP2 0 rfl rfl 0 (by decide) (ht _ q_101) (fun _ h9 => h9) rfl dX0_endPoll_7 ?_
  refine va_put (ci := 0) (v := .int (X 0)) (ty := .int) (C := RX0) (T := TX0) (N := 12) hx hb ht inX0 tyX0 tyX0_ok nmX0 hown hK.1 hP2 hD3 hS1 0 rfl rfl 3 (by decide) (ht _ q_108) (fun _ h9 => h9) rfl (by decide +kernel) rfl rfl (Nat.le_of_ble_eq_true rfl) dX0_endPoll_10 (fun H4 locs4 hP4 hD4 hS4 => ?_)
  have hP5 : va_P G.1 vwCl ([(h0, .inr (0, cE (upd (upd X 6 0) 3 (X 0)) h1)), (h1, .inr (2, cT11 (upd (upd X 6 0) 3 (X 0))))]) H4 := hP4
  have hD6 : va_D A ([(h0, .inr (0, cE (upd (upd X 6 0) 3 (X 0)) h1)), (h1, .inr (2, cT11 (upd (upd X 6 0) 3 (X 0))))]) := hD4
  refine lv_aload_n hx hb dX0_endPoll_13 rfl (lv_at hl 0 rfl) ?_
  refine lv_aload_n hx hb dX0_endPoll_14 rfl (lv_at hl 0 rfl) ?_
  refine va_get (ci := 0) (v := .int (X 1)) (C := RX0) (T := TX0) (N := 12) hx hb ht inX0 hown hK.1 hP5 0 rfl rfl 1 (by decide) (ht _ q_103) (fun _ h9 => h9) rfl dX0_endPoll_15 ?_
  refine va_put (ci := 0) (v := .int (X 1)) (ty := .int) (C := RX0) (T := TX0) (N := 12) hx hb ht inX0 tyX0 tyX0_ok nmX0 hown hK.1 hP5 hD6 hS4 0 rfl rfl 4 (by decide) (ht _ q_109) (fun _ h9 => h9) rfl (by decide +kernel) rfl rfl (Nat.le_of_ble_eq_true rfl) dX0_endPoll_18 (fun H7 locs7 hP7 hD7 hS7 => ?_)
  have hP8 : va_P G.1 vwCl ([(h0, .inr (0, cE (upd (upd (upd X 6 0) 3 (X 0)) 4 (X 1)) h1)), (h1, .inr (2, cT11 (upd (upd (upd X 6 0) 3 (X 0)) 4 (X 1))))]) H7 := hP7
  have hD9 : va_D A ([(h0, .inr (0, cE (upd (upd (upd X 6 0) 3 (X 0)) 4 (X 1)) h1)), (h1, .inr (2, cT11 (upd (upd (upd X 6 0) 3 (X 0)) 4 (X 1))))]) := hD7
  exact k_vret kx hK hP8 hD9 hS7 (u := ()) rfl trivial dX0_endPoll_21

set_option maxHeartbeats 4000000 in
set_option maxRecDepth 100000 in
theorem c_X0_fall (l : Launch) (G : kG) (X : Nat → Int32) (h0 : Nat) (h1 : Nat) : cG l G yX0_fall cX0_fall 1 none 1 [.ref h0] ([(h0, .inr (0, cE X h1)), (h1, .inr (2, cT11 X))]) (qV G (fun _ : Unit => True) (fun _ => [(h0, .inr (0, cE (upd (upd (upd (upd X 5 0) 6 0) 3 (X 0)) 4 (X 1)) h1)), (h1, .inr (2, cT11 (upd (upd (upd (upd X 5 0) 6 0) 3 (X 0)) 4 (X 1))))])) := by
  refine kintro (by decide) (Nat.le_of_ble_eq_true rfl) ?_
  intro p e s m args below meth c A ls kx hK hP hD hS hA hl
  have kx : kX p s m args meth c cX0_fall 1 none RX0 := kx
  have hx := kx.1
  have hb := kx.2.1
  have hown := kx.2.2.2.2.1
  have ht := kx.2.2.2.2.2.2
  have hl : lv_has ls 1 [(0, .ref h0)] := hl
  refine lv_aload_n hx hb dX0_fall_0 rfl (lv_at hl 0 rfl) ?_
  refine lv_iconst (v := 0) hx hb dX0_fall_1 (by decide) ?_
  refine va_put (ci := 0) (v := .int 0) (ty := .int) (C := RX0) (T := TX0) (N := 12) hx hb ht inX0 tyX0 tyX0_ok nmX0 hown hK.1 hP hD hS 0 rfl rfl 5 (by decide) (ht _ q_111) (fun _ h9 => h9) rfl (by decide +kernel) rfl rfl (Nat.le_of_ble_eq_true rfl) dX0_fall_2 (fun H1 locs1 hP1 hD1 hS1 => ?_)
  have hP2 : va_P G.1 vwCl ([(h0, .inr (0, cE (upd X 5 0) h1)), (h1, .inr (2, cT11 (upd X 5 0)))]) H1 := hP1
  have hD3 : va_D A ([(h0, .inr (0, cE (upd X 5 0) h1)), (h1, .inr (2, cT11 (upd X 5 0)))]) := hD1
  refine lv_aload_n hx hb dX0_fall_5 rfl (lv_at hl 0 rfl) ?_
  refine k_callv (kRunV (As := []) (rest := []) kx (c_X0_endPoll l G (upd X 5 0) h0 h1) q_379 q_376 q_32 q_377 q_378 nX0_endPoll ⟨Nat.le_of_ble_eq_true rfl, Nat.le_of_ble_eq_true rfl⟩ hK hP2 hD3 (kCtx_all _) 0 0 rfl rfl rfl rfl hl.1 (Nat.le_of_ble_eq_true rfl) dX0_fall_6 ⟨Nat.zero_le _, Nat.zero_le _⟩) hP2 hD3 hS1 hA (kCtx_all _) (fun _ => rfl) (fun _ H4 locs4 hw hP4 hD4 hS4 => ?_)
  have hP5 : va_P G.1 vwCl ([(h0, .inr (0, cE (upd (upd (upd (upd X 5 0) 6 0) 3 (X 0)) 4 (X 1)) h1)), (h1, .inr (2, cT11 (upd (upd (upd (upd X 5 0) 6 0) 3 (X 0)) 4 (X 1))))]) H4 := hP4
  have hD6 : va_D A ([(h0, .inr (0, cE (upd (upd (upd (upd X 5 0) 6 0) 3 (X 0)) 4 (X 1)) h1)), (h1, .inr (2, cT11 (upd (upd (upd (upd X 5 0) 6 0) 3 (X 0)) 4 (X 1))))]) := hD4
  exact k_vret kx hK hP5 hD6 hS4 (u := ()) rfl trivial dX0_fall_9

set_option maxHeartbeats 4000000 in
set_option maxRecDepth 100000 in
theorem c_X4_reset (l : Launch) (G : kG) (Y : Nat → Int32) (h0 : Nat) (h1 : Nat) : cG l G yX4_reset cX4_reset 1 none 1 [.ref h0] ([(h0, .inr (4, cY Y h1)), (h1, .inr (2, cT1 Y))]) (qV G (fun _ : Unit => True) (fun _ => [(h0, .inr (4, cY (upd (upd (upd (upd (upd (upd (upd (upd (upd (upd (upd Y 9 1) 0 0) 6 0) 7 0) 8 0) 10 0) 1 0) 2 1) 3 1) 4 1) 5 0) h1)), (h1, .inr (2, cT1 (upd (upd (upd (upd (upd (upd (upd (upd (upd (upd (upd Y 9 1) 0 0) 6 0) 7 0) 8 0) 10 0) 1 0) 2 1) 3 1) 4 1) 5 0)))])) := by
  refine kintro (by decide) (Nat.le_of_ble_eq_true rfl) ?_
  intro p e s m args below meth c A ls kx hK hP hD hS hA hl
  have kx : kX p s m args meth c cX4_reset 1 none RX4 := kx
  have hx := kx.1
  have hb := kx.2.1
  have hown := kx.2.2.2.2.1
  have ht := kx.2.2.2.2.2.2
  have hl : lv_has ls 1 [(0, .ref h0)] := hl
  refine lv_aload_n hx hb dX4_reset_0 rfl (lv_at hl 0 rfl) ?_
  refine lv_iconst (v := 1) hx hb dX4_reset_1 (by decide) ?_
  refine va_put (ci := 4) (v := .int 1) (ty := .boolean) (C := RX4) (T := TX4) (N := 7) hx hb ht inX4 tyX4 tyX4_ok nmX4 hown hK.1 hP hD hS 0 rfl rfl 0 (by decide) (ht _ q_163) (fun _ h9 => h9) rfl (by decide +kernel) (kb_n kb1) (kb_f kb1) (Nat.le_of_ble_eq_true rfl) dX4_reset_2 (fun H1 locs1 hP1 hD1 hS1 => ?_)
  have hP2 : va_P G.1 vwCl ([(h0, .inr (4, cY (upd Y 9 1) h1)), (h1, .inr (2, cT1 (upd Y 9 1)))]) H1 := hP1
  have hD3 : va_D A ([(h0, .inr (4, cY (upd Y 9 1) h1)), (h1, .inr (2, cT1 (upd Y 9 1)))]) := hD1
  refine lv_aload_n hx hb dX4_reset_5 rfl (lv_at hl 0 rfl) ?_
  refine lv_iconst (v := 0) hx hb dX4_reset_6 (by decide) ?_
  refine va_put (ci := 4) (v := .int 0) (ty := .boolean) (C := RX4) (T := TX4) (N := 7) hx hb ht inX4 tyX4 tyX4_ok nmX4 hown hK.1 hP2 hD3 hS1 0 rfl rfl 1 (by decide) (ht _ q_165) (fun _ h9 => h9) rfl (by decide +kernel) (kb_n kb0) (kb_f kb0) (Nat.le_of_ble_eq_true rfl) dX4_reset_7 (fun H4 locs4 hP4 hD4 hS4 => ?_)
  have hP5 : va_P G.1 vwCl ([(h0, .inr (4, cY (upd (upd Y 9 1) 0 0) h1)), (h1, .inr (2, cT1 (upd (upd Y 9 1) 0 0)))]) H4 := hP4
  have hD6 : va_D A ([(h0, .inr (4, cY (upd (upd Y 9 1) 0 0) h1)), (h1, .inr (2, cT1 (upd (upd Y 9 1) 0 0)))]) := hD4
  refine lv_aload_n hx hb dX4_reset_10 rfl (lv_at hl 0 rfl) ?_
  refine lv_iconst (v := 0) hx hb dX4_reset_11 (by decide) ?_
  refine va_put (ci := 4) (v := .int 0) (ty := .boolean) (C := RX4) (T := TX4) (N := 7) hx hb ht inX4 tyX4 tyX4_ok nmX4 hown hK.1 hP5 hD6 hS4 0 rfl rfl 2 (by decide) (ht _ q_167) (fun _ h9 => h9) rfl (by decide +kernel) (kb_n kb0) (kb_f kb0) (Nat.le_of_ble_eq_true rfl) dX4_reset_12 (fun H7 locs7 hP7 hD7 hS7 => ?_)
  have hP8 : va_P G.1 vwCl ([(h0, .inr (4, cY (upd (upd (upd Y 9 1) 0 0) 6 0) h1)), (h1, .inr (2, cT1 (upd (upd (upd Y 9 1) 0 0) 6 0)))]) H7 := hP7
  have hD9 : va_D A ([(h0, .inr (4, cY (upd (upd (upd Y 9 1) 0 0) 6 0) h1)), (h1, .inr (2, cT1 (upd (upd (upd Y 9 1) 0 0) 6 0)))]) := hD7
  refine lv_aload_n hx hb dX4_reset_15 rfl (lv_at hl 0 rfl) ?_
  refine lv_iconst (v := 0) hx hb dX4_reset_16 (by decide) ?_
  refine va_put (ci := 4) (v := .int 0) (ty := .boolean) (C := RX4) (T := TX4) (N := 7) hx hb ht inX4 tyX4 tyX4_ok nmX4 hown hK.1 hP8 hD9 hS7 0 rfl rfl 3 (by decide) (ht _ q_169) (fun _ h9 => h9) rfl (by decide +kernel) (kb_n kb0) (kb_f kb0) (Nat.le_of_ble_eq_true rfl) dX4_reset_17 (fun H10 locs10 hP10 hD10 hS10 => ?_)
  have hP11 : va_P G.1 vwCl ([(h0, .inr (4, cY (upd (upd (upd (upd Y 9 1) 0 0) 6 0) 7 0) h1)), (h1, .inr (2, cT1 (upd (upd (upd (upd Y 9 1) 0 0) 6 0) 7 0)))]) H10 := hP10
  have hD12 : va_D A ([(h0, .inr (4, cY (upd (upd (upd (upd Y 9 1) 0 0) 6 0) 7 0) h1)), (h1, .inr (2, cT1 (upd (upd (upd (upd Y 9 1) 0 0) 6 0) 7 0)))]) := hD10
  refine lv_aload_n hx hb dX4_reset_20 rfl (lv_at hl 0 rfl) ?_
  refine lv_iconst (v := 0) hx hb dX4_reset_21 (by decide) ?_
  refine va_put (ci := 4) (v := .int 0) (ty := .boolean) (C := RX4) (T := TX4) (N := 7) hx hb ht inX4 tyX4 tyX4_ok nmX4 hown hK.1 hP11 hD12 hS10 0 rfl rfl 4 (by decide) (ht _ q_171) (fun _ h9 => h9) rfl (by decide +kernel) (kb_n kb0) (kb_f kb0) (Nat.le_of_ble_eq_true rfl) dX4_reset_22 (fun H13 locs13 hP13 hD13 hS13 => ?_)
  have hP14 : va_P G.1 vwCl ([(h0, .inr (4, cY (upd (upd (upd (upd (upd Y 9 1) 0 0) 6 0) 7 0) 8 0) h1)), (h1, .inr (2, cT1 (upd (upd (upd (upd (upd Y 9 1) 0 0) 6 0) 7 0) 8 0)))]) H13 := hP13
  have hD15 : va_D A ([(h0, .inr (4, cY (upd (upd (upd (upd (upd Y 9 1) 0 0) 6 0) 7 0) 8 0) h1)), (h1, .inr (2, cT1 (upd (upd (upd (upd (upd Y 9 1) 0 0) 6 0) 7 0) 8 0)))]) := hD13
  refine lv_aload_n hx hb dX4_reset_25 rfl (lv_at hl 0 rfl) ?_
  refine lv_iconst (v := 0) hx hb dX4_reset_26 (by decide) ?_
  refine va_put (ci := 4) (v := .int 0) (ty := .int) (C := RX4) (T := TX4) (N := 7) hx hb ht inX4 tyX4 tyX4_ok nmX4 hown hK.1 hP14 hD15 hS13 0 rfl rfl 5 (by decide) (ht _ q_172) (fun _ h9 => h9) rfl (by decide +kernel) rfl rfl (Nat.le_of_ble_eq_true rfl) dX4_reset_27 (fun H16 locs16 hP16 hD16 hS16 => ?_)
  have hP17 : va_P G.1 vwCl ([(h0, .inr (4, cY (upd (upd (upd (upd (upd (upd Y 9 1) 0 0) 6 0) 7 0) 8 0) 10 0) h1)), (h1, .inr (2, cT1 (upd (upd (upd (upd (upd (upd Y 9 1) 0 0) 6 0) 7 0) 8 0) 10 0)))]) H16 := hP16
  have hD18 : va_D A ([(h0, .inr (4, cY (upd (upd (upd (upd (upd (upd Y 9 1) 0 0) 6 0) 7 0) 8 0) 10 0) h1)), (h1, .inr (2, cT1 (upd (upd (upd (upd (upd (upd Y 9 1) 0 0) 6 0) 7 0) 8 0) 10 0)))]) := hD16
  refine lv_aload_n hx hb dX4_reset_30 rfl (lv_at hl 0 rfl) ?_
  refine va_get (ci := 4) (v := .ref h1) (C := RX4) (T := TX4) (N := 7) hx hb ht inX4 hown hK.1 hP17 0 rfl rfl 6 (by decide) (ht _ q_174) (fun _ h9 => h9) rfl dX4_reset_31 ?_
  refine k_callv (kRunV (As := []) (rest := []) kx (c_X2_reset l G (fun i => (upd (upd (upd (upd (upd (upd Y 9 1) 0 0) 6 0) 7 0) 8 0) 10 0) (1 + i)) h1) q_202 q_207 q_33 q_200 q_201 nX2_reset ⟨Nat.le_of_ble_eq_true rfl, Nat.le_of_ble_eq_true rfl⟩ hK hP17 hD18 (kCtx_places _ _ [1] rfl rfl) 0 2 rfl rfl rfl rfl hl.1 (Nat.le_of_ble_eq_true rfl) dX4_reset_34 ⟨Nat.zero_le _, Nat.zero_le _⟩) hP17 hD18 hS16 hA (kCtx_places _ _ [1] rfl rfl) (fun _ => rfl) (fun _ H19 locs19 hw hP19 hD19 hS19 => ?_)
  have hP20 : va_P G.1 vwCl ([(h0, .inr (4, cY (upd (upd (upd (upd (upd (upd (upd (upd (upd (upd (upd Y 9 1) 0 0) 6 0) 7 0) 8 0) 10 0) 1 0) 2 1) 3 1) 4 1) 5 0) h1)), (h1, .inr (2, cT1 (upd (upd (upd (upd (upd (upd (upd (upd (upd (upd (upd Y 9 1) 0 0) 6 0) 7 0) 8 0) 10 0) 1 0) 2 1) 3 1) 4 1) 5 0)))]) H19 := hP19
  have hD21 : va_D A ([(h0, .inr (4, cY (upd (upd (upd (upd (upd (upd (upd (upd (upd (upd (upd Y 9 1) 0 0) 6 0) 7 0) 8 0) 10 0) 1 0) 2 1) 3 1) 4 1) 5 0) h1)), (h1, .inr (2, cT1 (upd (upd (upd (upd (upd (upd (upd (upd (upd (upd (upd Y 9 1) 0 0) 6 0) 7 0) 8 0) 10 0) 1 0) 2 1) 3 1) 4 1) 5 0)))]) := hD19
  exact k_vret kx hK hP20 hD21 hS19 (u := ()) rfl trivial dX4_reset_37

set_option maxHeartbeats 4000000 in
set_option maxRecDepth 100000 in
theorem c_X4_copyFrom (l : Launch) (G : kG) (Y : Nat → Int32) (O : Nat → Int32) (h0 : Nat) (h1 : Nat) (h2 : Nat) (h3 : Nat) (hO : bY O) : cG l G yX4_copyFrom cX4_copyFrom 2 none 1 [.ref h0, .ref h2] ([(h0, .inr (4, cY Y h1)), (h1, .inr (2, cT1 Y)), (h2, .inr (4, cY O h3)), (h3, .inr (2, cT1 O))]) (qV G (fun _ : Unit => True) (fun _ => [(h0, .inr (4, cY O h1)), (h1, .inr (2, cT1 O)), (h2, .inr (4, cY O h3)), (h3, .inr (2, cT1 O))])) := by
  refine kintro (by decide) (Nat.le_of_ble_eq_true rfl) ?_
  intro p e s m args below meth c A ls kx hK hP hD hS hA hl
  have kx : kX p s m args meth c cX4_copyFrom 2 none RX4 := kx
  have hx := kx.1
  have hb := kx.2.1
  have hown := kx.2.2.2.2.1
  have ht := kx.2.2.2.2.2.2
  have hl : lv_has ls 2 [(0, .ref h0), (1, .ref h2)] := hl
  refine lv_aload_n hx hb dX4_copyFrom_0 rfl (lv_at hl 0 rfl) ?_
  refine lv_aload_n hx hb dX4_copyFrom_1 rfl (lv_at hl 1 rfl) ?_
  refine va_get (ci := 4) (v := .int (O 9)) (C := RX4) (T := TX4) (N := 7) hx hb ht inX4 hown hK.1 hP 2 rfl rfl 0 (by decide) (ht _ q_163) (fun _ h9 => h9) rfl dX4_copyFrom_2 ?_
  refine va_put (ci := 4) (v := .int (O 9)) (ty := .boolean) (C := RX4) (T := TX4) (N := 7) hx hb ht inX4 tyX4 tyX4_ok nmX4 hown hK.1 hP hD hS 0 rfl rfl 0 (by decide) (ht _ q_163) (fun _ h9 => h9) rfl (by decide +kernel) (kb_n hO.2.2.2.2.2) (kb_f hO.2.2.2.2.2) (Nat.le_of_ble_eq_true rfl) dX4_copyFrom_5 (fun H1 locs1 hP1 hD1 hS1 => ?_)
  have hP2 : va_P G.1 vwCl ([(h0, .inr (4, cY (upd Y 9 (O 9)) h1)), (h1, .inr (2, cT1 (upd Y 9 (O 9)))), (h2, .inr (4, cY O h3)), (h3, .inr (2, cT1 O))]) H1 := hP1
  have hD3 : va_D A ([(h0, .inr (4, cY (upd Y 9 (O 9)) h1)), (h1, .inr (2, cT1 (upd Y 9 (O 9)))), (h2, .inr (4, cY O h3)), (h3, .inr (2, cT1 O))]) := hD1
  refine lv_aload_n hx hb dX4_copyFrom_8 rfl (lv_at hl 0 rfl) ?_
  refine lv_aload_n hx hb dX4_copyFrom_9 rfl (lv_at hl 1 rfl) ?_
  refine va_get (ci := 4) (v := .int (O 0)) (C := RX4) (T := TX4) (N := 7) hx hb ht inX4 hown hK.1 hP2 2 rfl rfl 1 (by decide) (ht _ q_165) (fun _ h9 => h9) rfl dX4_copyFrom_10 ?_
  refine va_put (ci := 4) (v := .int (O 0)) (ty := .boolean) (C := RX4) (T := TX4) (N := 7) hx hb ht inX4 tyX4 tyX4_ok nmX4 hown hK.1 hP2 hD3 hS1 0 rfl rfl 1 (by decide) (ht _ q_165) (fun _ h9 => h9) rfl (by decide +kernel) (kb_n hO.1) (kb_f hO.1) (Nat.le_of_ble_eq_true rfl) dX4_copyFrom_13 (fun H4 locs4 hP4 hD4 hS4 => ?_)
  have hP5 : va_P G.1 vwCl ([(h0, .inr (4, cY (upd (upd Y 9 (O 9)) 0 (O 0)) h1)), (h1, .inr (2, cT1 (upd (upd Y 9 (O 9)) 0 (O 0)))), (h2, .inr (4, cY O h3)), (h3, .inr (2, cT1 O))]) H4 := hP4
  have hD6 : va_D A ([(h0, .inr (4, cY (upd (upd Y 9 (O 9)) 0 (O 0)) h1)), (h1, .inr (2, cT1 (upd (upd Y 9 (O 9)) 0 (O 0)))), (h2, .inr (4, cY O h3)), (h3, .inr (2, cT1 O))]) := hD4
  refine lv_aload_n hx hb dX4_copyFrom_16 rfl (lv_at hl 0 rfl) ?_
  refine lv_aload_n hx hb dX4_copyFrom_17 rfl (lv_at hl 1 rfl) ?_
  refine va_get (ci := 4) (v := .int (O 6)) (C := RX4) (T := TX4) (N := 7) hx hb ht inX4 hown hK.1 hP5 2 rfl rfl 2 (by decide) (ht _ q_167) (fun _ h9 => h9) rfl dX4_copyFrom_18 ?_
  refine va_put (ci := 4) (v := .int (O 6)) (ty := .boolean) (C := RX4) (T := TX4) (N := 7) hx hb ht inX4 tyX4 tyX4_ok nmX4 hown hK.1 hP5 hD6 hS4 0 rfl rfl 2 (by decide) (ht _ q_167) (fun _ h9 => h9) rfl (by decide +kernel) (kb_n hO.2.2.1) (kb_f hO.2.2.1) (Nat.le_of_ble_eq_true rfl) dX4_copyFrom_21 (fun H7 locs7 hP7 hD7 hS7 => ?_)
  have hP8 : va_P G.1 vwCl ([(h0, .inr (4, cY (upd (upd (upd Y 9 (O 9)) 0 (O 0)) 6 (O 6)) h1)), (h1, .inr (2, cT1 (upd (upd (upd Y 9 (O 9)) 0 (O 0)) 6 (O 6)))), (h2, .inr (4, cY O h3)), (h3, .inr (2, cT1 O))]) H7 := hP7
  have hD9 : va_D A ([(h0, .inr (4, cY (upd (upd (upd Y 9 (O 9)) 0 (O 0)) 6 (O 6)) h1)), (h1, .inr (2, cT1 (upd (upd (upd Y 9 (O 9)) 0 (O 0)) 6 (O 6)))), (h2, .inr (4, cY O h3)), (h3, .inr (2, cT1 O))]) := hD7
  refine lv_aload_n hx hb dX4_copyFrom_24 rfl (lv_at hl 0 rfl) ?_
  refine lv_aload_n hx hb dX4_copyFrom_25 rfl (lv_at hl 1 rfl) ?_
  refine va_get (ci := 4) (v := .int (O 7)) (C := RX4) (T := TX4) (N := 7) hx hb ht inX4 hown hK.1 hP8 2 rfl rfl 3 (by decide) (ht _ q_169) (fun _ h9 => h9) rfl dX4_copyFrom_26 ?_
  refine va_put (ci := 4) (v := .int (O 7)) (ty := .boolean) (C := RX4) (T := TX4) (N := 7) hx hb ht inX4 tyX4 tyX4_ok nmX4 hown hK.1 hP8 hD9 hS7 0 rfl rfl 3 (by decide) (ht _ q_169) (fun _ h9 => h9) rfl (by decide +kernel) (kb_n hO.2.2.2.1) (kb_f hO.2.2.2.1) (Nat.le_of_ble_eq_true rfl) dX4_copyFrom_29 (fun H10 locs10 hP10 hD10 hS10 => ?_)
  have hP11 : va_P G.1 vwCl ([(h0, .inr (4, cY (upd (upd (upd (upd Y 9 (O 9)) 0 (O 0)) 6 (O 6)) 7 (O 7)) h1)), (h1, .inr (2, cT1 (upd (upd (upd (upd Y 9 (O 9)) 0 (O 0)) 6 (O 6)) 7 (O 7)))), (h2, .inr (4, cY O h3)), (h3, .inr (2, cT1 O))]) H10 := hP10
  have hD12 : va_D A ([(h0, .inr (4, cY (upd (upd (upd (upd Y 9 (O 9)) 0 (O 0)) 6 (O 6)) 7 (O 7)) h1)), (h1, .inr (2, cT1 (upd (upd (upd (upd Y 9 (O 9)) 0 (O 0)) 6 (O 6)) 7 (O 7)))), (h2, .inr (4, cY O h3)), (h3, .inr (2, cT1 O))]) := hD10
  refine lv_aload_n hx hb dX4_copyFrom_32 rfl (lv_at hl 0 rfl) ?_
  refine lv_aload_n hx hb dX4_copyFrom_33 rfl (lv_at hl 1 rfl) ?_
  refine va_get (ci := 4) (v := .int (O 8)) (C := RX4) (T := TX4) (N := 7) hx hb ht inX4 hown hK.1 hP11 2 rfl rfl 4 (by decide) (ht _ q_171) (fun _ h9 => h9) rfl dX4_copyFrom_34 ?_
  refine va_put (ci := 4) (v := .int (O 8)) (ty := .boolean) (C := RX4) (T := TX4) (N := 7) hx hb ht inX4 tyX4 tyX4_ok nmX4 hown hK.1 hP11 hD12 hS10 0 rfl rfl 4 (by decide) (ht _ q_171) (fun _ h9 => h9) rfl (by decide +kernel) (kb_n hO.2.2.2.2.1) (kb_f hO.2.2.2.2.1) (Nat.le_of_ble_eq_true rfl) dX4_copyFrom_37 (fun H13 locs13 hP13 hD13 hS13 => ?_)
  have hP14 : va_P G.1 vwCl ([(h0, .inr (4, cY (upd (upd (upd (upd (upd Y 9 (O 9)) 0 (O 0)) 6 (O 6)) 7 (O 7)) 8 (O 8)) h1)), (h1, .inr (2, cT1 (upd (upd (upd (upd (upd Y 9 (O 9)) 0 (O 0)) 6 (O 6)) 7 (O 7)) 8 (O 8)))), (h2, .inr (4, cY O h3)), (h3, .inr (2, cT1 O))]) H13 := hP13
  have hD15 : va_D A ([(h0, .inr (4, cY (upd (upd (upd (upd (upd Y 9 (O 9)) 0 (O 0)) 6 (O 6)) 7 (O 7)) 8 (O 8)) h1)), (h1, .inr (2, cT1 (upd (upd (upd (upd (upd Y 9 (O 9)) 0 (O 0)) 6 (O 6)) 7 (O 7)) 8 (O 8)))), (h2, .inr (4, cY O h3)), (h3, .inr (2, cT1 O))]) := hD13
  refine lv_aload_n hx hb dX4_copyFrom_40 rfl (lv_at hl 0 rfl) ?_
  refine lv_aload_n hx hb dX4_copyFrom_41 rfl (lv_at hl 1 rfl) ?_
  refine va_get (ci := 4) (v := .int (O 10)) (C := RX4) (T := TX4) (N := 7) hx hb ht inX4 hown hK.1 hP14 2 rfl rfl 5 (by decide) (ht _ q_172) (fun _ h9 => h9) rfl dX4_copyFrom_42 ?_
  refine va_put (ci := 4) (v := .int (O 10)) (ty := .int) (C := RX4) (T := TX4) (N := 7) hx hb ht inX4 tyX4 tyX4_ok nmX4 hown hK.1 hP14 hD15 hS13 0 rfl rfl 5 (by decide) (ht _ q_172) (fun _ h9 => h9) rfl (by decide +kernel) rfl rfl (Nat.le_of_ble_eq_true rfl) dX4_copyFrom_45 (fun H16 locs16 hP16 hD16 hS16 => ?_)
  have hP17 : va_P G.1 vwCl ([(h0, .inr (4, cY (upd (upd (upd (upd (upd (upd Y 9 (O 9)) 0 (O 0)) 6 (O 6)) 7 (O 7)) 8 (O 8)) 10 (O 10)) h1)), (h1, .inr (2, cT1 (upd (upd (upd (upd (upd (upd Y 9 (O 9)) 0 (O 0)) 6 (O 6)) 7 (O 7)) 8 (O 8)) 10 (O 10)))), (h2, .inr (4, cY O h3)), (h3, .inr (2, cT1 O))]) H16 := hP16
  have hD18 : va_D A ([(h0, .inr (4, cY (upd (upd (upd (upd (upd (upd Y 9 (O 9)) 0 (O 0)) 6 (O 6)) 7 (O 7)) 8 (O 8)) 10 (O 10)) h1)), (h1, .inr (2, cT1 (upd (upd (upd (upd (upd (upd Y 9 (O 9)) 0 (O 0)) 6 (O 6)) 7 (O 7)) 8 (O 8)) 10 (O 10)))), (h2, .inr (4, cY O h3)), (h3, .inr (2, cT1 O))]) := hD16
  refine lv_aload_n hx hb dX4_copyFrom_48 rfl (lv_at hl 0 rfl) ?_
  refine va_get (ci := 4) (v := .ref h1) (C := RX4) (T := TX4) (N := 7) hx hb ht inX4 hown hK.1 hP17 0 rfl rfl 6 (by decide) (ht _ q_174) (fun _ h9 => h9) rfl dX4_copyFrom_49 ?_
  refine lv_aload_n hx hb dX4_copyFrom_52 rfl (lv_at hl 1 rfl) ?_
  refine va_get (ci := 4) (v := .ref h3) (C := RX4) (T := TX4) (N := 7) hx hb ht inX4 hown hK.1 hP17 2 rfl rfl 6 (by decide) (ht _ q_174) (fun _ h9 => h9) rfl dX4_copyFrom_53 ?_
  refine k_callv (kRunV (As := [.ref h3]) (rest := []) kx (c_X2_copyFrom l G (fun i => (upd (upd (upd (upd (upd (upd Y 9 (O 9)) 0 (O 0)) 6 (O 6)) 7 (O 7)) 8 (O 8)) 10 (O 10)) (1 + i)) (fun i => O (1 + i)) h1 h3 hO.2.1) q_371 q_448 q_33 q_369 q_370 nX2_copyFrom ⟨Nat.le_of_ble_eq_true rfl, Nat.le_of_ble_eq_true rfl⟩ hK hP17 hD18 (kCtx_places _ _ [1, 3] rfl rfl) 0 2 rfl rfl rfl rfl hl.1 (Nat.le_of_ble_eq_true rfl) dX4_copyFrom_56 ⟨Nat.zero_le _, Nat.zero_le _⟩) hP17 hD18 hS16 hA (kCtx_places _ _ [1, 3] rfl rfl) (fun _ => rfl) (fun _ H19 locs19 hw hP19 hD19 hS19 => ?_)
  have hP20 : va_P G.1 vwCl ([(h0, .inr (4, cY (upd (upd (upd (upd (upd (upd (upd (upd (upd (upd (upd Y 9 (O 9)) 0 (O 0)) 6 (O 6)) 7 (O 7)) 8 (O 8)) 10 (O 10)) 1 (O 1)) 2 (O 2)) 3 (O 3)) 4 (O 4)) 5 (O 5)) h1)), (h1, .inr (2, cT1 (upd (upd (upd (upd (upd (upd (upd (upd (upd (upd (upd Y 9 (O 9)) 0 (O 0)) 6 (O 6)) 7 (O 7)) 8 (O 8)) 10 (O 10)) 1 (O 1)) 2 (O 2)) 3 (O 3)) 4 (O 4)) 5 (O 5)))), (h2, .inr (4, cY O h3)), (h3, .inr (2, cT1 O))]) H19 := hP19
  have hD21 : va_D A ([(h0, .inr (4, cY (upd (upd (upd (upd (upd (upd (upd (upd (upd (upd (upd Y 9 (O 9)) 0 (O 0)) 6 (O 6)) 7 (O 7)) 8 (O 8)) 10 (O 10)) 1 (O 1)) 2 (O 2)) 3 (O 3)) 4 (O 4)) 5 (O 5)) h1)), (h1, .inr (2, cT1 (upd (upd (upd (upd (upd (upd (upd (upd (upd (upd (upd Y 9 (O 9)) 0 (O 0)) 6 (O 6)) 7 (O 7)) 8 (O 8)) 10 (O 10)) 1 (O 1)) 2 (O 2)) 3 (O 3)) 4 (O 4)) 5 (O 5)))), (h2, .inr (4, cY O h3)), (h3, .inr (2, cT1 O))]) := hD19
  exact k_vret kx hK hP20 hD21 hS19 (u := ()) rfl trivial dX4_copyFrom_59

def s_X4_turnOver_Y (Y : Nat → Int32) : Nat → Int32 := if Y 9 = 0 then (upd Y 9 1) else upd Y 9 0
set_option maxHeartbeats 4000000 in
set_option maxRecDepth 100000 in
theorem c_X4_turnOver (l : Launch) (G : kG) (Y : Nat → Int32) (h0 : Nat) (h1 : Nat) : cG l G yX4_turnOver cX4_turnOver 1 none 0 [.ref h0] ([(h0, .inr (4, cY Y h1)), (h1, .inr (2, cT1 Y))]) (qV G (fun u : (Nat → Int32) => u = s_X4_turnOver_Y Y) (fun u => [(h0, .inr (4, cY u h1)), (h1, .inr (2, cT1 u))])) := by
  refine kintro (by decide) (Nat.le_of_ble_eq_true rfl) ?_
  intro p e s m args below meth c A ls kx hK hP hD hS hA hl
  have kx : kX p s m args meth c cX4_turnOver 1 none RX4 := kx
  have hx := kx.1
  have hb := kx.2.1
  have hown := kx.2.2.2.2.1
  have ht := kx.2.2.2.2.2.2
  have hl : lv_has ls 1 [(0, .ref h0)] := hl
  refine lv_aload_n hx hb dX4_turnOver_0 rfl (lv_at hl 0 rfl) ?_
  refine lv_aload_n hx hb dX4_turnOver_1 rfl (lv_at hl 0 rfl) ?_
  refine va_get (ci := 4) (v := .int (Y 9)) (C := RX4) (T := TX4) (N := 7) hx hb ht inX4 hown hK.1 hP 0 rfl rfl 0 (by decide) (ht _ q_163) (fun _ h9 => h9) rfl dX4_turnOver_2 ?_
  refine lv_if_ne (x := Y 9) (tgt := 12) hx hb dX4_turnOver_5 (by decide) (fun (c1 : ¬ (Y 9 = 0)) => ?_) (fun (c1 : Y 9 = 0) => ?_)
  · skip
    refine lv_iconst (v := 0) hx hb dX4_turnOver_12 (by decide) ?_
    refine va_put (ci := 4) (v := .int 0) (ty := .boolean) (C := RX4) (T := TX4) (N := 7) hx hb ht inX4 tyX4 tyX4_ok nmX4 hown hK.1 hP hD hS 0 rfl rfl 0 (by decide) (ht _ q_163) (fun _ h9 => h9) rfl (by decide +kernel) (kb_n kb0) (kb_f kb0) (Nat.le_of_ble_eq_true rfl) dX4_turnOver_13 (fun H1 locs1 hP1 hD1 hS1 => ?_)
    have hP2 : va_P G.1 vwCl ([(h0, .inr (4, cY (upd Y 9 0) h1)), (h1, .inr (2, cT1 (upd Y 9 0)))]) H1 := hP1
    have hD3 : va_D A ([(h0, .inr (4, cY (upd Y 9 0) h1)), (h1, .inr (2, cT1 (upd Y 9 0)))]) := hD1
    have e0 : s_X4_turnOver_Y Y = upd Y 9 0 := by rw [s_X4_turnOver_Y, if_neg c1]
    exact k_vret kx hK hP2 hD3 hS1 (u := upd Y 9 0) rfl e0.symm dX4_turnOver_16
  · skip
    refine lv_iconst (v := 1) hx hb dX4_turnOver_8 (by decide) ?_
    refine lv_goto (tgt := 13) hx hb dX4_turnOver_9 (by decide) ?_
    refine va_put (ci := 4) (v := .int 1) (ty := .boolean) (C := RX4) (T := TX4) (N := 7) hx hb ht inX4 tyX4 tyX4_ok nmX4 hown hK.1 hP hD hS 0 rfl rfl 0 (by decide) (ht _ q_163) (fun _ h9 => h9) rfl (by decide +kernel) (kb_n kb1) (kb_f kb1) (Nat.le_of_ble_eq_true rfl) dX4_turnOver_13 (fun H4 locs4 hP4 hD4 hS4 => ?_)
    have hP5 : va_P G.1 vwCl ([(h0, .inr (4, cY (upd Y 9 1) h1)), (h1, .inr (2, cT1 (upd Y 9 1)))]) H4 := hP4
    have hD6 : va_D A ([(h0, .inr (4, cY (upd Y 9 1) h1)), (h1, .inr (2, cT1 (upd Y 9 1)))]) := hD4
    have e0 : s_X4_turnOver_Y Y = upd Y 9 1 := by rw [s_X4_turnOver_Y, if_pos c1]
    exact k_vret kx hK hP5 hD6 hS4 (u := upd Y 9 1) rfl e0.symm dX4_turnOver_16
theorem b_s_X4_turnOver_Y (Y : Nat → Int32) (hY : bY Y) : bY (s_X4_turnOver_Y Y) := by
  unfold s_X4_turnOver_Y
  split
  · skip
    exact ⟨hY.1, hY.2.1, hY.2.2.1, hY.2.2.2.1, hY.2.2.2.2.1, kb1⟩
  · skip
    exact ⟨hY.1, hY.2.1, hY.2.2.1, hY.2.2.2.1, hY.2.2.2.2.1, kb0⟩

set_option maxHeartbeats 4000000 in
set_option maxRecDepth 100000 in
theorem c_X4_put (l : Launch) (G : kG) (Y : Nat → Int32) (X : Nat → Int32) (p1 : Int32) (h0 : Nat) (h1 : Nat) (h2 : Nat) (h3 : Nat) (hX : bE X) (h9 : kb p1) : cG l G yX4_put cX4_put 3 none 1 [.ref h0, .ref h2, .int p1] ([(h0, .inr (4, cY Y h1)), (h1, .inr (2, cT1 Y)), (h2, .inr (0, cE X h3)), (h3, .inr (2, cT11 X))]) (qV G (fun _ : Unit => True) (fun _ => [(h0, .inr (4, cY (upd (upd (upd (upd (upd (upd (upd (upd (upd Y 0 1) 6 (X 6)) 7 (X 10)) 8 p1) 1 (X 5)) 2 (X 0)) 3 (X 1)) 4 (X 2)) 5 (X 7)) h1)), (h1, .inr (2, cT1 (upd (upd (upd (upd (upd (upd (upd (upd (upd Y 0 1) 6 (X 6)) 7 (X 10)) 8 p1) 1 (X 5)) 2 (X 0)) 3 (X 1)) 4 (X 2)) 5 (X 7)))), (h2, .inr (0, cE X h3)), (h3, .inr (2, cT11 X))])) := by
  refine kintro (by decide) (Nat.le_of_ble_eq_true rfl) ?_
  intro p e s m args below meth c A ls kx hK hP hD hS hA hl
  have kx : kX p s m args meth c cX4_put 3 none RX4 := kx
  have hx := kx.1
  have hb := kx.2.1
  have hown := kx.2.2.2.2.1
  have ht := kx.2.2.2.2.2.2
  have hl : lv_has ls 3 [(0, .ref h0), (1, .ref h2), (2, .int p1)] := hl
  refine lv_aload_n hx hb dX4_put_0 rfl (lv_at hl 0 rfl) ?_
  refine lv_iconst (v := 1) hx hb dX4_put_1 (by decide) ?_
  refine va_put (ci := 4) (v := .int 1) (ty := .boolean) (C := RX4) (T := TX4) (N := 7) hx hb ht inX4 tyX4 tyX4_ok nmX4 hown hK.1 hP hD hS 0 rfl rfl 1 (by decide) (ht _ q_165) (fun _ h9 => h9) rfl (by decide +kernel) (kb_n kb1) (kb_f kb1) (Nat.le_of_ble_eq_true rfl) dX4_put_2 (fun H1 locs1 hP1 hD1 hS1 => ?_)
  have hP2 : va_P G.1 vwCl ([(h0, .inr (4, cY (upd Y 0 1) h1)), (h1, .inr (2, cT1 (upd Y 0 1))), (h2, .inr (0, cE X h3)), (h3, .inr (2, cT11 X))]) H1 := hP1
  have hD3 : va_D A ([(h0, .inr (4, cY (upd Y 0 1) h1)), (h1, .inr (2, cT1 (upd Y 0 1))), (h2, .inr (0, cE X h3)), (h3, .inr (2, cT11 X))]) := hD1
  refine lv_aload_n hx hb dX4_put_5 rfl (lv_at hl 0 rfl) ?_
  refine lv_aload_n hx hb dX4_put_6 rfl (lv_at hl 1 rfl) ?_
  refine va_get (ci := 0) (v := .int (X 6)) (C := RX0) (T := TX0) (N := 12) hx hb ht inX0 hown hK.1 hP2 2 rfl rfl 8 (by decide) (ht _ q_120) (fun _ h9 => h9) rfl dX4_put_7 ?_
  refine va_put (ci := 4) (v := .int (X 6)) (ty := .boolean) (C := RX4) (T := TX4) (N := 7) hx hb ht inX4 tyX4 tyX4_ok nmX4 hown hK.1 hP2 hD3 hS1 0 rfl rfl 2 (by decide) (ht _ q_167) (fun _ h9 => h9) rfl (by decide +kernel) (kb_n hX.1) (kb_f hX.1) (Nat.le_of_ble_eq_true rfl) dX4_put_10 (fun H4 locs4 hP4 hD4 hS4 => ?_)
  have hP5 : va_P G.1 vwCl ([(h0, .inr (4, cY (upd (upd Y 0 1) 6 (X 6)) h1)), (h1, .inr (2, cT1 (upd (upd Y 0 1) 6 (X 6)))), (h2, .inr (0, cE X h3)), (h3, .inr (2, cT11 X))]) H4 := hP4
  have hD6 : va_D A ([(h0, .inr (4, cY (upd (upd Y 0 1) 6 (X 6)) h1)), (h1, .inr (2, cT1 (upd (upd Y 0 1) 6 (X 6)))), (h2, .inr (0, cE X h3)), (h3, .inr (2, cT11 X))]) := hD4
  refine lv_aload_n hx hb dX4_put_13 rfl (lv_at hl 0 rfl) ?_
  refine lv_aload_n hx hb dX4_put_14 rfl (lv_at hl 1 rfl) ?_
  refine va_get (ci := 0) (v := .int (X 10)) (C := RX0) (T := TX0) (N := 12) hx hb ht inX0 hown hK.1 hP5 2 rfl rfl 10 (by decide) (ht _ q_126) (fun _ h9 => h9) rfl dX4_put_15 ?_
  refine va_put (ci := 4) (v := .int (X 10)) (ty := .boolean) (C := RX4) (T := TX4) (N := 7) hx hb ht inX4 tyX4 tyX4_ok nmX4 hown hK.1 hP5 hD6 hS4 0 rfl rfl 3 (by decide) (ht _ q_169) (fun _ h9 => h9) rfl (by decide +kernel) (kb_n hX.2.2.1) (kb_f hX.2.2.1) (Nat.le_of_ble_eq_true rfl) dX4_put_18 (fun H7 locs7 hP7 hD7 hS7 => ?_)
  have hP8 : va_P G.1 vwCl ([(h0, .inr (4, cY (upd (upd (upd Y 0 1) 6 (X 6)) 7 (X 10)) h1)), (h1, .inr (2, cT1 (upd (upd (upd Y 0 1) 6 (X 6)) 7 (X 10)))), (h2, .inr (0, cE X h3)), (h3, .inr (2, cT11 X))]) H7 := hP7
  have hD9 : va_D A ([(h0, .inr (4, cY (upd (upd (upd Y 0 1) 6 (X 6)) 7 (X 10)) h1)), (h1, .inr (2, cT1 (upd (upd (upd Y 0 1) 6 (X 6)) 7 (X 10)))), (h2, .inr (0, cE X h3)), (h3, .inr (2, cT11 X))]) := hD7
  refine lv_aload_n hx hb dX4_put_21 rfl (lv_at hl 0 rfl) ?_
  refine lv_iload_n hx hb dX4_put_22 rfl (lv_at hl 2 rfl) ?_
  refine va_put (ci := 4) (v := .int p1) (ty := .boolean) (C := RX4) (T := TX4) (N := 7) hx hb ht inX4 tyX4 tyX4_ok nmX4 hown hK.1 hP8 hD9 hS7 0 rfl rfl 4 (by decide) (ht _ q_171) (fun _ h9 => h9) rfl (by decide +kernel) (kb_n h9) (kb_f h9) (Nat.le_of_ble_eq_true rfl) dX4_put_23 (fun H10 locs10 hP10 hD10 hS10 => ?_)
  have hP11 : va_P G.1 vwCl ([(h0, .inr (4, cY (upd (upd (upd (upd Y 0 1) 6 (X 6)) 7 (X 10)) 8 p1) h1)), (h1, .inr (2, cT1 (upd (upd (upd (upd Y 0 1) 6 (X 6)) 7 (X 10)) 8 p1))), (h2, .inr (0, cE X h3)), (h3, .inr (2, cT11 X))]) H10 := hP10
  have hD12 : va_D A ([(h0, .inr (4, cY (upd (upd (upd (upd Y 0 1) 6 (X 6)) 7 (X 10)) 8 p1) h1)), (h1, .inr (2, cT1 (upd (upd (upd (upd Y 0 1) 6 (X 6)) 7 (X 10)) 8 p1))), (h2, .inr (0, cE X h3)), (h3, .inr (2, cT11 X))]) := hD10
  refine lv_aload_n hx hb dX4_put_26 rfl (lv_at hl 0 rfl) ?_
  refine va_get (ci := 4) (v := .ref h1) (C := RX4) (T := TX4) (N := 7) hx hb ht inX4 hown hK.1 hP11 0 rfl rfl 6 (by decide) (ht _ q_174) (fun _ h9 => h9) rfl dX4_put_27 ?_
  refine lv_aload_n hx hb dX4_put_30 rfl (lv_at hl 1 rfl) ?_
  refine k_callv (kRunV (As := [.ref h2]) (rest := []) kx (c_X2_describe l G (fun i => (upd (upd (upd (upd Y 0 1) 6 (X 6)) 7 (X 10)) 8 p1) (1 + i)) X h1 h2 h3 hX.2.1) q_416 q_413 q_33 q_414 q_415 nX2_describe ⟨Nat.le_of_ble_eq_true rfl, Nat.le_of_ble_eq_true rfl⟩ hK hP11 hD12 (kCtx_places _ _ [1, 2, 3] rfl rfl) 0 2 rfl rfl rfl rfl hl.1 (Nat.le_of_ble_eq_true rfl) dX4_put_31 ⟨Nat.zero_le _, Nat.zero_le _⟩) hP11 hD12 hS10 hA (kCtx_places _ _ [1, 2, 3] rfl rfl) (fun _ => rfl) (fun _ H13 locs13 hw hP13 hD13 hS13 => ?_)
  have hP14 : va_P G.1 vwCl ([(h0, .inr (4, cY (upd (upd (upd (upd (upd (upd (upd (upd (upd Y 0 1) 6 (X 6)) 7 (X 10)) 8 p1) 1 (X 5)) 2 (X 0)) 3 (X 1)) 4 (X 2)) 5 (X 7)) h1)), (h1, .inr (2, cT1 (upd (upd (upd (upd (upd (upd (upd (upd (upd Y 0 1) 6 (X 6)) 7 (X 10)) 8 p1) 1 (X 5)) 2 (X 0)) 3 (X 1)) 4 (X 2)) 5 (X 7)))), (h2, .inr (0, cE X h3)), (h3, .inr (2, cT11 X))]) H13 := hP13
  have hD15 : va_D A ([(h0, .inr (4, cY (upd (upd (upd (upd (upd (upd (upd (upd (upd Y 0 1) 6 (X 6)) 7 (X 10)) 8 p1) 1 (X 5)) 2 (X 0)) 3 (X 1)) 4 (X 2)) 5 (X 7)) h1)), (h1, .inr (2, cT1 (upd (upd (upd (upd (upd (upd (upd (upd (upd Y 0 1) 6 (X 6)) 7 (X 10)) 8 p1) 1 (X 5)) 2 (X 0)) 3 (X 1)) 4 (X 2)) 5 (X 7)))), (h2, .inr (0, cE X h3)), (h3, .inr (2, cT11 X))]) := hD13
  exact k_vret kx hK hP14 hD15 hS13 (u := ()) rfl trivial dX4_put_34

def r_X4_takeOff (Y : Nat → Int32) : Int32 := if Y 0 = 0 then 0 else if Y 9 = 0 then 0 else if Y 10 ≤ 0 then (if Y 8 = 0 then 1 else 0) else 0
def s_X4_takeOff_Y (Y : Nat → Int32) : Nat → Int32 := if Y 0 = 0 then Y else if Y 9 = 0 then (upd Y 0 0) else if Y 10 ≤ 0 then (if Y 8 = 0 then (upd Y 0 0) else upd Y 0 0) else upd (upd Y 0 0) 10 ((Y 10) - 1)
set_option maxHeartbeats 4000000 in
set_option maxRecDepth 100000 in
theorem c_X4_takeOff (l : Launch) (G : kG) (Y : Nat → Int32) (h0 : Nat) (h1 : Nat) : cG l G yX4_takeOff cX4_takeOff 1 (some .boolean) 0 [.ref h0] ([(h0, .inr (4, cY Y h1)), (h1, .inr (2, cT1 Y))]) (qI G (fun (r : Int32) (u : (Nat → Int32)) => r = r_X4_takeOff Y ∧ u = s_X4_takeOff_Y Y) (fun u => [(h0, .inr (4, cY u h1)), (h1, .inr (2, cT1 u))])) := by
  refine kintro (by decide) (Nat.le_of_ble_eq_true rfl) ?_
  intro p e s m args below meth c A ls kx hK hP hD hS hA hl
  have kx : kX p s m args meth c cX4_takeOff 1 (some .boolean) RX4 := kx
  have hx := kx.1
  have hb := kx.2.1
  have hown := kx.2.2.2.2.1
  have ht := kx.2.2.2.2.2.2
  have hl : lv_has ls 1 [(0, .ref h0)] := hl
  refine lv_aload_n hx hb dX4_takeOff_0 rfl (lv_at hl 0 rfl) ?_
  refine va_get (ci := 4) (v := .int (Y 0)) (C := RX4) (T := TX4) (N := 7) hx hb ht inX4 hown hK.1 hP 0 rfl rfl 1 (by decide) (ht _ q_165) (fun _ h9 => h9) rfl dX4_takeOff_1 ?_
  refine lv_if_ne (x := Y 0) (tgt := 9) hx hb dX4_takeOff_4 (by decide) (fun (c1 : ¬ (Y 0 = 0)) => ?_) (fun (c1 : Y 0 = 0) => ?_)
  · skip
    refine lv_aload_n hx hb dX4_takeOff_9 rfl (lv_at hl 0 rfl) ?_
    refine lv_iconst (v := 0) hx hb dX4_takeOff_10 (by decide) ?_
    refine va_put (ci := 4) (v := .int 0) (ty := .boolean) (C := RX4) (T := TX4) (N := 7) hx hb ht inX4 tyX4 tyX4_ok nmX4 hown hK.1 hP hD hS 0 rfl rfl 1 (by decide) (ht _ q_165) (fun _ h9 => h9) rfl (by decide +kernel) (kb_n kb0) (kb_f kb0) (Nat.le_of_ble_eq_true rfl) dX4_takeOff_11 (fun H1 locs1 hP1 hD1 hS1 => ?_)
    have hP2 : va_P G.1 vwCl ([(h0, .inr (4, cY (upd Y 0 0) h1)), (h1, .inr (2, cT1 (upd Y 0 0)))]) H1 := hP1
    have hD3 : va_D A ([(h0, .inr (4, cY (upd Y 0 0) h1)), (h1, .inr (2, cT1 (upd Y 0 0)))]) := hD1
    refine lv_aload_n hx hb dX4_takeOff_14 rfl (lv_at hl 0 rfl) ?_
    refine va_get (ci := 4) (v := .int (Y 9)) (C := RX4) (T := TX4) (N := 7) hx hb ht inX4 hown hK.1 hP2 0 rfl rfl 0 (by decide) (ht _ q_163) (fun _ h9 => h9) rfl dX4_takeOff_15 ?_
    refine lv_if_ne (x := Y 9) (tgt := 23) hx hb dX4_takeOff_18 (by decide) (fun (c2 : ¬ (Y 9 = 0)) => ?_) (fun (c2 : Y 9 = 0) => ?_)
    · skip
      refine lv_aload_n hx hb dX4_takeOff_23 rfl (lv_at hl 0 rfl) ?_
      refine va_get (ci := 4) (v := .int (Y 10)) (C := RX4) (T := TX4) (N := 7) hx hb ht inX4 hown hK.1 hP2 0 rfl rfl 5 (by decide) (ht _ q_172) (fun _ h9 => h9) rfl dX4_takeOff_24 ?_
      refine lv_if_le (x := Y 10) (tgt := 42) hx hb dX4_takeOff_27 (by decide) (fun (c3 : Y 10 ≤ 0) => ?_) (fun (c3 : ¬ (Y 10 ≤ 0)) => ?_)
      · skip
        refine lv_aload_n hx hb dX4_takeOff_42 rfl (lv_at hl 0 rfl) ?_
        refine va_get (ci := 4) (v := .int (Y 8)) (C := RX4) (T := TX4) (N := 7) hx hb ht inX4 hown hK.1 hP2 0 rfl rfl 4 (by decide) (ht _ q_171) (fun _ h9 => h9) rfl dX4_takeOff_43 ?_
        refine lv_if_ne (x := Y 8) (tgt := 53) hx hb dX4_takeOff_46 (by decide) (fun (c4 : ¬ (Y 8 = 0)) => ?_) (fun (c4 : Y 8 = 0) => ?_)
        · skip
          refine lv_iconst (v := 0) hx hb dX4_takeOff_53 (by decide) ?_
          have er : r_X4_takeOff Y = 0 := by rw [r_X4_takeOff, if_neg c1, if_neg c2, if_pos c3, if_neg c4]
          have e0 : s_X4_takeOff_Y Y = upd Y 0 0 := by rw [s_X4_takeOff_Y, if_neg c1, if_neg c2, if_pos c3, if_neg c4]
          exact k_zret kx hK hP2 hD3 hS1 (u := upd Y 0 0) rfl ⟨er.symm, e0.symm⟩ kb0 dX4_takeOff_54
        · skip
          refine lv_iconst (v := 1) hx hb dX4_takeOff_49 (by decide) ?_
          refine lv_goto (tgt := 54) hx hb dX4_takeOff_50 (by decide) ?_
          have er : r_X4_takeOff Y = 1 := by rw [r_X4_takeOff, if_neg c1, if_neg c2, if_pos c3, if_pos c4]
          have e0 : s_X4_takeOff_Y Y = upd Y 0 0 := by rw [s_X4_takeOff_Y, if_neg c1, if_neg c2, if_pos c3, if_pos c4]
          exact k_zret kx hK hP2 hD3 hS1 (u := upd Y 0 0) rfl ⟨er.symm, e0.symm⟩ kb1 dX4_takeOff_54
      · skip
        refine lv_aload_n hx hb dX4_takeOff_30 rfl (lv_at hl 0 rfl) ?_
        refine lv_dup hx hb dX4_takeOff_31 rfl ?_
        refine va_get (ci := 4) (v := .int (Y 10)) (C := RX4) (T := TX4) (N := 7) hx hb ht inX4 hown hK.1 hP2 0 rfl rfl 5 (by decide) (ht _ q_172) (fun _ h9 => h9) rfl dX4_takeOff_32 ?_
        refine lv_iconst (v := 1) hx hb dX4_takeOff_35 (by decide) ?_
        refine lv_isub hx hb dX4_takeOff_36 ?_
        refine va_put (ci := 4) (v := .int ((Y 10) - 1)) (ty := .int) (C := RX4) (T := TX4) (N := 7) hx hb ht inX4 tyX4 tyX4_ok nmX4 hown hK.1 hP2 hD3 hS1 0 rfl rfl 5 (by decide) (ht _ q_172) (fun _ h9 => h9) rfl (by decide +kernel) rfl rfl (Nat.le_of_ble_eq_true rfl) dX4_takeOff_37 (fun H4 locs4 hP4 hD4 hS4 => ?_)
        have hP5 : va_P G.1 vwCl ([(h0, .inr (4, cY (upd (upd Y 0 0) 10 ((Y 10) - 1)) h1)), (h1, .inr (2, cT1 (upd (upd Y 0 0) 10 ((Y 10) - 1))))]) H4 := hP4
        have hD6 : va_D A ([(h0, .inr (4, cY (upd (upd Y 0 0) 10 ((Y 10) - 1)) h1)), (h1, .inr (2, cT1 (upd (upd Y 0 0) 10 ((Y 10) - 1))))]) := hD4
        refine lv_iconst (v := 0) hx hb dX4_takeOff_40 (by decide) ?_
        have er : r_X4_takeOff Y = 0 := by rw [r_X4_takeOff, if_neg c1, if_neg c2, if_neg c3]
        have e0 : s_X4_takeOff_Y Y = upd (upd Y 0 0) 10 ((Y 10) - 1) := by rw [s_X4_takeOff_Y, if_neg c1, if_neg c2, if_neg c3]
        exact k_zret kx hK hP5 hD6 hS4 (u := upd (upd Y 0 0) 10 ((Y 10) - 1)) rfl ⟨er.symm, e0.symm⟩ kb0 dX4_takeOff_41
    · skip
      refine lv_iconst (v := 0) hx hb dX4_takeOff_21 (by decide) ?_
      have er : r_X4_takeOff Y = 0 := by rw [r_X4_takeOff, if_neg c1, if_pos c2]
      have e0 : s_X4_takeOff_Y Y = upd Y 0 0 := by rw [s_X4_takeOff_Y, if_neg c1, if_pos c2]
      exact k_zret kx hK hP2 hD3 hS1 (u := upd Y 0 0) rfl ⟨er.symm, e0.symm⟩ kb0 dX4_takeOff_22
  · skip
    refine lv_iconst (v := 0) hx hb dX4_takeOff_7 (by decide) ?_
    have er : r_X4_takeOff Y = 0 := by rw [r_X4_takeOff, if_pos c1]
    have e0 : s_X4_takeOff_Y Y = Y := by rw [s_X4_takeOff_Y, if_pos c1]
    exact k_zret kx hK hP hD hS (u := Y) rfl ⟨er.symm, e0.symm⟩ kb0 dX4_takeOff_8
theorem b_s_X4_takeOff_Y (Y : Nat → Int32) (hY : bY Y) : bY (s_X4_takeOff_Y Y) := by
  unfold s_X4_takeOff_Y
  split
  · skip
    exact hY
  · skip
    split
    · skip
      exact ⟨kb0, hY.2.1, hY.2.2.1, hY.2.2.2.1, hY.2.2.2.2.1, hY.2.2.2.2.2⟩
    · skip
      split
      · skip
        split
        · skip
          exact ⟨kb0, hY.2.1, hY.2.2.1, hY.2.2.2.1, hY.2.2.2.2.1, hY.2.2.2.2.2⟩
        · skip
          exact ⟨kb0, hY.2.1, hY.2.2.1, hY.2.2.2.1, hY.2.2.2.2.1, hY.2.2.2.2.2⟩
      · skip
        exact ⟨kb0, hY.2.1, hY.2.2.1, hY.2.2.2.1, hY.2.2.2.2.1, hY.2.2.2.2.2⟩
theorem kbr_X4_takeOff (Y : Nat → Int32) : kb (r_X4_takeOff Y) := by
  unfold r_X4_takeOff
  repeat' split
  all_goals first | exact kb0 | exact kb1

def r_X0_moodByWhatIsKnown (X : Nat → Int32) : Int32 := if X 11 = 0 then 1 else if X 11 = 1 then 2 else if X 5 = 1 then 2 else X 5
set_option maxHeartbeats 4000000 in
set_option maxRecDepth 100000 in
theorem c_X0_moodByWhatIsKnown (l : Launch) (G : kG) (X : Nat → Int32) (h0 : Nat) (h1 : Nat) : cG l G yX0_moodByWhatIsKnown cX0_moodByWhatIsKnown 1 (some .int) 0 [.ref h0] ([(h0, .inr (0, cE X h1)), (h1, .inr (2, cT11 X))]) (qI G (fun (r : Int32) (_ : Unit) => r = r_X0_moodByWhatIsKnown X) (fun _ => [(h0, .inr (0, cE X h1)), (h1, .inr (2, cT11 X))])) := by
  refine kintro (by decide) (Nat.le_of_ble_eq_true rfl) ?_
  intro p e s m args below meth c A ls kx hK hP hD hS hA hl
  have kx : kX p s m args meth c cX0_moodByWhatIsKnown 1 (some .int) RX0 := kx
  have hx := kx.1
  have hb := kx.2.1
  have hown := kx.2.2.2.2.1
  have ht := kx.2.2.2.2.2.2
  have hl : lv_has ls 1 [(0, .ref h0)] := hl
  refine lv_aload_n hx hb dX0_moodByWhatIsKnown_0 rfl (lv_at hl 0 rfl) ?_
  refine va_get (ci := 0) (v := .ref h1) (C := RX0) (T := TX0) (N := 12) hx hb ht inX0 hown hK.1 hP 0 rfl rfl 11 (by decide) (ht _ q_128) (fun _ h9 => h9) rfl dX0_moodByWhatIsKnown_1 ?_
  refine va_get (ci := 2) (v := .int (X 11)) (C := RX2) (T := TX2) (N := 5) hx hb ht inX2 hown hK.1 hP 1 rfl rfl 0 (by decide) (ht _ q_81) (fun _ h9 => h9) rfl dX0_moodByWhatIsKnown_4 ?_
  refine lv_if_ne (x := X 11) (tgt := 12) hx hb dX0_moodByWhatIsKnown_7 (by decide) (fun (c1 : ¬ (X 11 = 0)) => ?_) (fun (c1 : X 11 = 0) => ?_)
  · skip
    refine lv_aload_n hx hb dX0_moodByWhatIsKnown_12 rfl (lv_at hl 0 rfl) ?_
    refine va_get (ci := 0) (v := .ref h1) (C := RX0) (T := TX0) (N := 12) hx hb ht inX0 hown hK.1 hP 0 rfl rfl 11 (by decide) (ht _ q_128) (fun _ h9 => h9) rfl dX0_moodByWhatIsKnown_13 ?_
    refine va_get (ci := 2) (v := .int (X 11)) (C := RX2) (T := TX2) (N := 5) hx hb ht inX2 hown hK.1 hP 1 rfl rfl 0 (by decide) (ht _ q_81) (fun _ h9 => h9) rfl dX0_moodByWhatIsKnown_16 ?_
    refine lv_iconst (v := 1) hx hb dX0_moodByWhatIsKnown_19 (by decide) ?_
    refine lv_icmp_eq (x := X 11) (y := 1) (tgt := 31) hx hb dX0_moodByWhatIsKnown_20 (by decide) (fun (c2 : X 11 = 1) => ?_) (fun (c2 : ¬ (X 11 = 1)) => ?_)
    · skip
      refine lv_iconst (v := 2) hx hb dX0_moodByWhatIsKnown_31 (by decide) ?_
      refine lv_goto (tgt := 39) hx hb dX0_moodByWhatIsKnown_32 (by decide) ?_
      have er : r_X0_moodByWhatIsKnown X = 2 := by rw [r_X0_moodByWhatIsKnown, if_neg c1, if_pos c2]
      exact k_iret kx hK hP hD hS (u := ()) rfl er.symm dX0_moodByWhatIsKnown_39
    · skip
      refine lv_aload_n hx hb dX0_moodByWhatIsKnown_23 rfl (lv_at hl 0 rfl) ?_
      refine va_get (ci := 0) (v := .int (X 5)) (C := RX0) (T := TX0) (N := 12) hx hb ht inX0 hown hK.1 hP 0 rfl rfl 5 (by decide) (ht _ q_111) (fun _ h9 => h9) rfl dX0_moodByWhatIsKnown_24 ?_
      refine lv_iconst (v := 1) hx hb dX0_moodByWhatIsKnown_27 (by decide) ?_
      refine lv_icmp_ne (x := X 5) (y := 1) (tgt := 35) hx hb dX0_moodByWhatIsKnown_28 (by decide) (fun (c3 : ¬ (X 5 = 1)) => ?_) (fun (c3 : X 5 = 1) => ?_)
      · skip
        refine lv_aload_n hx hb dX0_moodByWhatIsKnown_35 rfl (lv_at hl 0 rfl) ?_
        refine va_get (ci := 0) (v := .int (X 5)) (C := RX0) (T := TX0) (N := 12) hx hb ht inX0 hown hK.1 hP 0 rfl rfl 5 (by decide) (ht _ q_111) (fun _ h9 => h9) rfl dX0_moodByWhatIsKnown_36 ?_
        have er : r_X0_moodByWhatIsKnown X = X 5 := by rw [r_X0_moodByWhatIsKnown, if_neg c1, if_neg c2, if_neg c3]
        exact k_iret kx hK hP hD hS (u := ()) rfl er.symm dX0_moodByWhatIsKnown_39
      · skip
        refine lv_iconst (v := 2) hx hb dX0_moodByWhatIsKnown_31 (by decide) ?_
        refine lv_goto (tgt := 39) hx hb dX0_moodByWhatIsKnown_32 (by decide) ?_
        have er : r_X0_moodByWhatIsKnown X = 2 := by rw [r_X0_moodByWhatIsKnown, if_neg c1, if_neg c2, if_pos c3]
        exact k_iret kx hK hP hD hS (u := ()) rfl er.symm dX0_moodByWhatIsKnown_39
  · skip
    refine lv_iconst (v := 1) hx hb dX0_moodByWhatIsKnown_10 (by decide) ?_
    have er : r_X0_moodByWhatIsKnown X = 1 := by rw [r_X0_moodByWhatIsKnown, if_pos c1]
    exact k_iret kx hK hP hD hS (u := ()) rfl er.symm dX0_moodByWhatIsKnown_11

def s_X0_listen_X (X : Nat → Int32) (Y : Nat → Int32) : Nat → Int32 := if (r_X4_takeOff Y) = 0 then (upd X 8 ((X 8) + 1)) else if X 5 = 2 then (if (s_X4_takeOff_Y Y) 1 = 0 then (if (s_X4_takeOff_Y Y) 6 = 0 then (if (s_X4_takeOff_Y Y) 7 = 0 then (upd (upd (upd (upd (upd (upd (upd (upd (upd (upd X 8 0) 11 ((s_X4_takeOff_Y Y) 1)) 12 ((s_X4_takeOff_Y Y) 2)) 13 ((s_X4_takeOff_Y Y) 3)) 14 ((s_X4_takeOff_Y Y) 4)) 15 ((s_X4_takeOff_Y Y) 5)) 5 0) 6 0) 3 (X 0)) 4 (X 1)) else upd (upd (upd (upd (upd (upd (upd (upd (upd (upd X 8 0) 11 ((s_X4_takeOff_Y Y) 1)) 12 ((s_X4_takeOff_Y Y) 2)) 13 ((s_X4_takeOff_Y Y) 3)) 14 ((s_X4_takeOff_Y Y) 4)) 15 ((s_X4_takeOff_Y Y) 5)) 5 0) 6 0) 3 (X 0)) 4 (X 1)) else if (s_X4_takeOff_Y Y) 7 = 0 then (upd (upd (upd (upd (upd (upd (upd (upd (upd (upd (upd X 8 0) 11 ((s_X4_takeOff_Y Y) 1)) 12 ((s_X4_takeOff_Y Y) 2)) 13 ((s_X4_takeOff_Y Y) 3)) 14 ((s_X4_takeOff_Y Y) 4)) 15 ((s_X4_takeOff_Y Y) 5)) 5 0) 6 0) 3 (X 0)) 4 (X 1)) 10 1) else upd (upd (upd (upd (upd (upd (upd (upd (upd (upd (upd X 8 0) 11 ((s_X4_takeOff_Y Y) 1)) 12 ((s_X4_takeOff_Y Y) 2)) 13 ((s_X4_takeOff_Y Y) 3)) 14 ((s_X4_takeOff_Y Y) 4)) 15 ((s_X4_takeOff_Y Y) 5)) 5 0) 6 0) 3 (X 0)) 4 (X 1)) 10 1) else if (s_X4_takeOff_Y Y) 6 = 0 then (if (s_X4_takeOff_Y Y) 7 = 0 then (upd (upd (upd (upd (upd (upd (upd X 8 0) 11 ((s_X4_takeOff_Y Y) 1)) 12 ((s_X4_takeOff_Y Y) 2)) 13 ((s_X4_takeOff_Y Y) 3)) 14 ((s_X4_takeOff_Y Y) 4)) 15 ((s_X4_takeOff_Y Y) 5)) 5 (r_X0_moodByWhatIsKnown (upd (upd (upd (upd (upd (upd X 8 0) 11 ((s_X4_takeOff_Y Y) 1)) 12 ((s_X4_takeOff_Y Y) 2)) 13 ((s_X4_takeOff_Y Y) 3)) 14 ((s_X4_takeOff_Y Y) 4)) 15 ((s_X4_takeOff_Y Y) 5)))) else if X 6 = 0 then (upd (upd (upd (upd (upd (upd (upd X 8 0) 11 ((s_X4_takeOff_Y Y) 1)) 12 ((s_X4_takeOff_Y Y) 2)) 13 ((s_X4_takeOff_Y Y) 3)) 14 ((s_X4_takeOff_Y Y) 4)) 15 ((s_X4_takeOff_Y Y) 5)) 5 (r_X0_moodByWhatIsKnown (upd (upd (upd (upd (upd (upd X 8 0) 11 ((s_X4_takeOff_Y Y) 1)) 12 ((s_X4_takeOff_Y Y) 2)) 13 ((s_X4_takeOff_Y Y) 3)) 14 ((s_X4_takeOff_Y Y) 4)) 15 ((s_X4_takeOff_Y Y) 5)))) else upd (upd (upd (upd (upd (upd (upd (upd (upd (upd X 8 0) 11 ((s_X4_takeOff_Y Y) 1)) 12 ((s_X4_takeOff_Y Y) 2)) 13 ((s_X4_takeOff_Y Y) 3)) 14 ((s_X4_takeOff_Y Y) 4)) 15 ((s_X4_takeOff_Y Y) 5)) 5 (r_X0_moodByWhatIsKnown (upd (upd (upd (upd (upd (upd X 8 0) 11 ((s_X4_takeOff_Y Y) 1)) 12 ((s_X4_takeOff_Y Y) 2)) 13 ((s_X4_takeOff_Y Y) 3)) 14 ((s_X4_takeOff_Y Y) 4)) 15 ((s_X4_takeOff_Y Y) 5)))) 6 0) 3 (X 0)) 4 (X 1)) else if (s_X4_takeOff_Y Y) 7 = 0 then (upd (upd (upd (upd (upd (upd (upd (upd X 8 0) 11 ((s_X4_takeOff_Y Y) 1)) 12 ((s_X4_takeOff_Y Y) 2)) 13 ((s_X4_takeOff_Y Y) 3)) 14 ((s_X4_takeOff_Y Y) 4)) 15 ((s_X4_takeOff_Y Y) 5)) 5 (r_X0_moodByWhatIsKnown (upd (upd (upd (upd (upd (upd X 8 0) 11 ((s_X4_takeOff_Y Y) 1)) 12 ((s_X4_takeOff_Y Y) 2)) 13 ((s_X4_takeOff_Y Y) 3)) 14 ((s_X4_takeOff_Y Y) 4)) 15 ((s_X4_takeOff_Y Y) 5)))) 10 1) else if X 6 = 0 then (upd (upd (upd (upd (upd (upd (upd (upd X 8 0) 11 ((s_X4_takeOff_Y Y) 1)) 12 ((s_X4_takeOff_Y Y) 2)) 13 ((s_X4_takeOff_Y Y) 3)) 14 ((s_X4_takeOff_Y Y) 4)) 15 ((s_X4_takeOff_Y Y) 5)) 5 (r_X0_moodByWhatIsKnown (upd (upd (upd (upd (upd (upd X 8 0) 11 ((s_X4_takeOff_Y Y) 1)) 12 ((s_X4_takeOff_Y Y) 2)) 13 ((s_X4_takeOff_Y Y) 3)) 14 ((s_X4_takeOff_Y Y) 4)) 15 ((s_X4_takeOff_Y Y) 5)))) 10 1) else upd (upd (upd (upd (upd (upd (upd (upd (upd (upd (upd X 8 0) 11 ((s_X4_takeOff_Y Y) 1)) 12 ((s_X4_takeOff_Y Y) 2)) 13 ((s_X4_takeOff_Y Y) 3)) 14 ((s_X4_takeOff_Y Y) 4)) 15 ((s_X4_takeOff_Y Y) 5)) 5 (r_X0_moodByWhatIsKnown (upd (upd (upd (upd (upd (upd X 8 0) 11 ((s_X4_takeOff_Y Y) 1)) 12 ((s_X4_takeOff_Y Y) 2)) 13 ((s_X4_takeOff_Y Y) 3)) 14 ((s_X4_takeOff_Y Y) 4)) 15 ((s_X4_takeOff_Y Y) 5)))) 10 1) 6 0) 3 (X 0)) 4 (X 1)) else if (s_X4_takeOff_Y Y) 6 = 0 then (if (s_X4_takeOff_Y Y) 7 = 0 then (upd (upd (upd (upd (upd (upd (upd X 8 0) 11 ((s_X4_takeOff_Y Y) 1)) 12 ((s_X4_takeOff_Y Y) 2)) 13 ((s_X4_takeOff_Y Y) 3)) 14 ((s_X4_takeOff_Y Y) 4)) 15 ((s_X4_takeOff_Y Y) 5)) 5 (r_X0_moodByWhatIsKnown (upd (upd (upd (upd (upd (upd X 8 0) 11 ((s_X4_takeOff_Y Y) 1)) 12 ((s_X4_takeOff_Y Y) 2)) 13 ((s_X4_takeOff_Y Y) 3)) 14 ((s_X4_takeOff_Y Y) 4)) 15 ((s_X4_takeOff_Y Y) 5)))) else if X 6 = 0 then (upd (upd (upd (upd (upd (upd (upd X 8 0) 11 ((s_X4_takeOff_Y Y) 1)) 12 ((s_X4_takeOff_Y Y) 2)) 13 ((s_X4_takeOff_Y Y) 3)) 14 ((s_X4_takeOff_Y Y) 4)) 15 ((s_X4_takeOff_Y Y) 5)) 5 (r_X0_moodByWhatIsKnown (upd (upd (upd (upd (upd (upd X 8 0) 11 ((s_X4_takeOff_Y Y) 1)) 12 ((s_X4_takeOff_Y Y) 2)) 13 ((s_X4_takeOff_Y Y) 3)) 14 ((s_X4_takeOff_Y Y) 4)) 15 ((s_X4_takeOff_Y Y) 5)))) else upd (upd (upd (upd (upd (upd (upd (upd (upd (upd X 8 0) 11 ((s_X4_takeOff_Y Y) 1)) 12 ((s_X4_takeOff_Y Y) 2)) 13 ((s_X4_takeOff_Y Y) 3)) 14 ((s_X4_takeOff_Y Y) 4)) 15 ((s_X4_takeOff_Y Y) 5)) 5 (r_X0_moodByWhatIsKnown (upd (upd (upd (upd (upd (upd X 8 0) 11 ((s_X4_takeOff_Y Y) 1)) 12 ((s_X4_takeOff_Y Y) 2)) 13 ((s_X4_takeOff_Y Y) 3)) 14 ((s_X4_takeOff_Y Y) 4)) 15 ((s_X4_takeOff_Y Y) 5)))) 6 0) 3 (X 0)) 4 (X 1)) else if (s_X4_takeOff_Y Y) 7 = 0 then (upd (upd (upd (upd (upd (upd (upd (upd X 8 0) 11 ((s_X4_takeOff_Y Y) 1)) 12 ((s_X4_takeOff_Y Y) 2)) 13 ((s_X4_takeOff_Y Y) 3)) 14 ((s_X4_takeOff_Y Y) 4)) 15 ((s_X4_takeOff_Y Y) 5)) 5 (r_X0_moodByWhatIsKnown (upd (upd (upd (upd (upd (upd X 8 0) 11 ((s_X4_takeOff_Y Y) 1)) 12 ((s_X4_takeOff_Y Y) 2)) 13 ((s_X4_takeOff_Y Y) 3)) 14 ((s_X4_takeOff_Y Y) 4)) 15 ((s_X4_takeOff_Y Y) 5)))) 10 1) else if X 6 = 0 then (upd (upd (upd (upd (upd (upd (upd (upd X 8 0) 11 ((s_X4_takeOff_Y Y) 1)) 12 ((s_X4_takeOff_Y Y) 2)) 13 ((s_X4_takeOff_Y Y) 3)) 14 ((s_X4_takeOff_Y Y) 4)) 15 ((s_X4_takeOff_Y Y) 5)) 5 (r_X0_moodByWhatIsKnown (upd (upd (upd (upd (upd (upd X 8 0) 11 ((s_X4_takeOff_Y Y) 1)) 12 ((s_X4_takeOff_Y Y) 2)) 13 ((s_X4_takeOff_Y Y) 3)) 14 ((s_X4_takeOff_Y Y) 4)) 15 ((s_X4_takeOff_Y Y) 5)))) 10 1) else upd (upd (upd (upd (upd (upd (upd (upd (upd (upd (upd X 8 0) 11 ((s_X4_takeOff_Y Y) 1)) 12 ((s_X4_takeOff_Y Y) 2)) 13 ((s_X4_takeOff_Y Y) 3)) 14 ((s_X4_takeOff_Y Y) 4)) 15 ((s_X4_takeOff_Y Y) 5)) 5 (r_X0_moodByWhatIsKnown (upd (upd (upd (upd (upd (upd X 8 0) 11 ((s_X4_takeOff_Y Y) 1)) 12 ((s_X4_takeOff_Y Y) 2)) 13 ((s_X4_takeOff_Y Y) 3)) 14 ((s_X4_takeOff_Y Y) 4)) 15 ((s_X4_takeOff_Y Y) 5)))) 10 1) 6 0) 3 (X 0)) 4 (X 1)
set_option maxHeartbeats 4000000 in
set_option maxRecDepth 100000 in
theorem c_X0_listen (l : Launch) (G : kG) (X : Nat → Int32) (Y : Nat → Int32) (h0 : Nat) (h1 : Nat) (h2 : Nat) (h3 : Nat) (hY : bY Y) : cG l G yX0_listen cX0_listen 2 none 2 [.ref h0, .ref h2] ([(h0, .inr (0, cE X h1)), (h1, .inr (2, cT11 X)), (h2, .inr (4, cY Y h3)), (h3, .inr (2, cT1 Y))]) (qV G (fun u : (Nat → Int32) => u = s_X0_listen_X X Y) (fun u => [(h0, .inr (0, cE u h1)), (h1, .inr (2, cT11 u)), (h2, .inr (4, cY (s_X4_takeOff_Y Y) h3)), (h3, .inr (2, cT1 (s_X4_takeOff_Y Y)))])) := by
  refine kintro (by decide) (Nat.le_of_ble_eq_true rfl) ?_
  intro p e s m args below meth c A ls kx hK hP hD hS hA hl
  have kx : kX p s m args meth c cX0_listen 2 none RX0 := kx
  have hx := kx.1
  have hb := kx.2.1
  have hown := kx.2.2.2.2.1
  have ht := kx.2.2.2.2.2.2
  have hl : lv_has ls 2 [(0, .ref h0), (1, .ref h2)] := hl
  refine lv_aload_n hx hb dX0_listen_0 rfl (lv_at hl 1 rfl) ?_
  refine k_calli (kRunV (As := []) (rest := []) kx (c_X4_takeOff l G Y h2 h3) q_367 q_364 q_34 q_365 q_366 nX4_takeOff ⟨Nat.le_of_ble_eq_true rfl, Nat.le_of_ble_eq_true rfl⟩ hK hP hD (kCtx_places _ _ [2, 3] rfl rfl) 0 4 rfl rfl rfl rfl hl.1 (Nat.le_of_ble_eq_true rfl) dX0_listen_1 ⟨Nat.zero_le _, Nat.zero_le _⟩) hP hD hS hA (kCtx_places _ _ [2, 3] rfl rfl) (fun _ => rfl) (fun r1 F2 H1 locs1 hw hP1 hD1 hS1 => ?_)
  obtain ⟨hr1, hF2⟩ := hw
  have hr1 : r_X4_takeOff Y = r1 := (show r1 = r_X4_takeOff Y from hr1).symm
  have hF2 : s_X4_takeOff_Y Y = F2 := (show F2 = s_X4_takeOff_Y Y from hF2).symm
  have hP2 : va_P G.1 vwCl ([(h0, .inr (0, cE X h1)), (h1, .inr (2, cT11 X)), (h2, .inr (4, cY F2 h3)), (h3, .inr (2, cT1 F2))]) H1 := hP1
  have hD3 : va_D A ([(h0, .inr (0, cE X h1)), (h1, .inr (2, cT11 X)), (h2, .inr (4, cY F2 h3)), (h3, .inr (2, cT1 F2))]) := hD1
  refine lv_if_ne (x := r1) (tgt := 18) hx hb dX0_listen_4 (by decide) (fun (c3 : ¬ (r1 = 0)) => ?_) (fun (c3 : r1 = 0) => ?_)
  · skip
    refine lv_aload_n hx hb dX0_listen_18 rfl (lv_at hl 0 rfl) ?_
    refine lv_iconst (v := 0) hx hb dX0_listen_19 (by decide) ?_
    refine va_put (ci := 0) (v := .int 0) (ty := .int) (C := RX0) (T := TX0) (N := 12) hx hb ht inX0 tyX0 tyX0_ok nmX0 hown hK.1 hP2 hD3 hS1 0 rfl rfl 6 (by decide) (ht _ q_116) (fun _ h9 => h9) rfl (by decide +kernel) rfl rfl (Nat.le_of_ble_eq_true rfl) dX0_listen_20 (fun H4 locs4 hP4 hD4 hS4 => ?_)
    have hP5 : va_P G.1 vwCl ([(h0, .inr (0, cE (upd X 8 0) h1)), (h1, .inr (2, cT11 (upd X 8 0))), (h2, .inr (4, cY F2 h3)), (h3, .inr (2, cT1 F2))]) H4 := hP4
    have hD6 : va_D A ([(h0, .inr (0, cE (upd X 8 0) h1)), (h1, .inr (2, cT11 (upd X 8 0))), (h2, .inr (4, cY F2 h3)), (h3, .inr (2, cT1 F2))]) := hD4
    refine lv_aload_n hx hb dX0_listen_23 rfl (lv_at hl 0 rfl) ?_
    refine va_get (ci := 0) (v := .ref h1) (C := RX0) (T := TX0) (N := 12) hx hb ht inX0 hown hK.1 hP5 0 rfl rfl 11 (by decide) (ht _ q_128) (fun _ h9 => h9) rfl dX0_listen_24 ?_
    refine lv_aload_n hx hb dX0_listen_27 rfl (lv_at hl 1 rfl) ?_
    refine va_get (ci := 4) (v := .ref h3) (C := RX4) (T := TX4) (N := 7) hx hb ht inX4 hown hK.1 hP5 2 rfl rfl 6 (by decide) (ht _ q_175) (fun _ h9 => h9) rfl dX0_listen_28 ?_
    refine k_callv (kRunV (As := [.ref h3]) (rest := []) kx (c_X2_copyFrom l G (fun i => (upd X 8 0) (11 + i)) (fun i => F2 (1 + i)) h1 h3 ((show bY F2 from by rw [← hF2]; exact (b_s_X4_takeOff_Y Y hY)).2.1)) q_371 q_368 q_33 q_369 q_370 nX2_copyFrom ⟨Nat.le_of_ble_eq_true rfl, Nat.le_of_ble_eq_true rfl⟩ hK hP5 hD6 (kCtx_places _ _ [1, 3] rfl rfl) 0 2 rfl rfl rfl rfl hl.1 (Nat.le_of_ble_eq_true rfl) dX0_listen_31 ⟨Nat.zero_le _, Nat.zero_le _⟩) hP5 hD6 hS4 hA (kCtx_places _ _ [1, 3] rfl rfl) (fun _ => rfl) (fun _ H7 locs7 hw hP7 hD7 hS7 => ?_)
    have hP8 : va_P G.1 vwCl ([(h0, .inr (0, cE (upd (upd (upd (upd (upd (upd X 8 0) 11 (F2 1)) 12 (F2 2)) 13 (F2 3)) 14 (F2 4)) 15 (F2 5)) h1)), (h1, .inr (2, cT11 (upd (upd (upd (upd (upd (upd X 8 0) 11 (F2 1)) 12 (F2 2)) 13 (F2 3)) 14 (F2 4)) 15 (F2 5)))), (h2, .inr (4, cY F2 h3)), (h3, .inr (2, cT1 F2))]) H7 := hP7
    have hD9 : va_D A ([(h0, .inr (0, cE (upd (upd (upd (upd (upd (upd X 8 0) 11 (F2 1)) 12 (F2 2)) 13 (F2 3)) 14 (F2 4)) 15 (F2 5)) h1)), (h1, .inr (2, cT11 (upd (upd (upd (upd (upd (upd X 8 0) 11 (F2 1)) 12 (F2 2)) 13 (F2 3)) 14 (F2 4)) 15 (F2 5)))), (h2, .inr (4, cY F2 h3)), (h3, .inr (2, cT1 F2))]) := hD7
    refine lv_aload_n hx hb dX0_listen_34 rfl (lv_at hl 0 rfl) ?_
    refine va_get (ci := 0) (v := .int (X 5)) (C := RX0) (T := TX0) (N := 12) hx hb ht inX0 hown hK.1 hP8 0 rfl rfl 5 (by decide) (ht _ q_111) (fun _ h9 => h9) rfl dX0_listen_35 ?_
    refine lv_iconst (v := 2) hx hb dX0_listen_38 (by decide) ?_
    refine lv_icmp_ne (x := X 5) (y := 2) (tgt := 59) hx hb dX0_listen_39 (by decide) (fun (c5 : ¬ (X 5 = 2)) => ?_) (fun (c5 : X 5 = 2) => ?_)
    · skip
      refine lv_aload_n hx hb dX0_listen_59 rfl (lv_at hl 0 rfl) ?_
      refine lv_aload_n hx hb dX0_listen_60 rfl (lv_at hl 0 rfl) ?_
      refine k_calli (kRunV (As := []) (rest := [.ref h0]) kx (c_X0_moodByWhatIsKnown l G (upd (upd (upd (upd (upd (upd X 8 0) 11 (F2 1)) 12 (F2 2)) 13 (F2 3)) 14 (F2 4)) 15 (F2 5)) h0 h1) q_383 q_380 q_32 q_382 q_0 nX0_moodByWhatIsKnown ⟨Nat.le_of_ble_eq_true rfl, Nat.le_of_ble_eq_true rfl⟩ hK hP8 hD9 (kCtx_places _ _ [0, 1] rfl rfl) 0 0 rfl rfl rfl rfl hl.1 (Nat.le_of_ble_eq_true rfl) dX0_listen_61 ⟨Nat.zero_le _, Nat.zero_le _⟩) hP8 hD9 hS7 hA (kCtx_places _ _ [0, 1] rfl rfl) (fun _ => rfl) (fun r6 _ H10 locs10 hw hP10 hD10 hS10 => ?_)
      have hr6 : r_X0_moodByWhatIsKnown (upd (upd (upd (upd (upd (upd X 8 0) 11 (F2 1)) 12 (F2 2)) 13 (F2 3)) 14 (F2 4)) 15 (F2 5)) = r6 := (show r6 = r_X0_moodByWhatIsKnown (upd (upd (upd (upd (upd (upd X 8 0) 11 (F2 1)) 12 (F2 2)) 13 (F2 3)) 14 (F2 4)) 15 (F2 5)) from hw).symm
      have hP11 : va_P G.1 vwCl ([(h0, .inr (0, cE (upd (upd (upd (upd (upd (upd X 8 0) 11 (F2 1)) 12 (F2 2)) 13 (F2 3)) 14 (F2 4)) 15 (F2 5)) h1)), (h1, .inr (2, cT11 (upd (upd (upd (upd (upd (upd X 8 0) 11 (F2 1)) 12 (F2 2)) 13 (F2 3)) 14 (F2 4)) 15 (F2 5)))), (h2, .inr (4, cY F2 h3)), (h3, .inr (2, cT1 F2))]) H10 := hP10
      have hD12 : va_D A ([(h0, .inr (0, cE (upd (upd (upd (upd (upd (upd X 8 0) 11 (F2 1)) 12 (F2 2)) 13 (F2 3)) 14 (F2 4)) 15 (F2 5)) h1)), (h1, .inr (2, cT11 (upd (upd (upd (upd (upd (upd X 8 0) 11 (F2 1)) 12 (F2 2)) 13 (F2 3)) 14 (F2 4)) 15 (F2 5)))), (h2, .inr (4, cY F2 h3)), (h3, .inr (2, cT1 F2))]) := hD10
      refine va_put (ci := 0) (v := .int r6) (ty := .int) (C := RX0) (T := TX0) (N := 12) hx hb ht inX0 tyX0 tyX0_ok nmX0 hown hK.1 hP11 hD12 hS10 0 rfl rfl 5 (by decide) (ht _ q_111) (fun _ h9 => h9) rfl (by decide +kernel) rfl rfl (Nat.le_of_ble_eq_true rfl) dX0_listen_64 (fun H13 locs13 hP13 hD13 hS13 => ?_)
      have hP14 : va_P G.1 vwCl ([(h0, .inr (0, cE (upd (upd (upd (upd (upd (upd (upd X 8 0) 11 (F2 1)) 12 (F2 2)) 13 (F2 3)) 14 (F2 4)) 15 (F2 5)) 5 r6) h1)), (h1, .inr (2, cT11 (upd (upd (upd (upd (upd (upd (upd X 8 0) 11 (F2 1)) 12 (F2 2)) 13 (F2 3)) 14 (F2 4)) 15 (F2 5)) 5 r6))), (h2, .inr (4, cY F2 h3)), (h3, .inr (2, cT1 F2))]) H13 := hP13
      have hD15 : va_D A ([(h0, .inr (0, cE (upd (upd (upd (upd (upd (upd (upd X 8 0) 11 (F2 1)) 12 (F2 2)) 13 (F2 3)) 14 (F2 4)) 15 (F2 5)) 5 r6) h1)), (h1, .inr (2, cT11 (upd (upd (upd (upd (upd (upd (upd X 8 0) 11 (F2 1)) 12 (F2 2)) 13 (F2 3)) 14 (F2 4)) 15 (F2 5)) 5 r6))), (h2, .inr (4, cY F2 h3)), (h3, .inr (2, cT1 F2))]) := hD13
      refine lv_aload_n hx hb dX0_listen_67 rfl (lv_at hl 1 rfl) ?_
      refine va_get (ci := 4) (v := .int (F2 6)) (C := RX4) (T := TX4) (N := 7) hx hb ht inX4 hown hK.1 hP14 2 rfl rfl 2 (by decide) (ht _ q_168) (fun _ h9 => h9) rfl dX0_listen_68 ?_
      refine lv_if_eq (x := F2 6) (tgt := 79) hx hb dX0_listen_71 (by decide) (fun (c7 : F2 6 = 0) => ?_) (fun (c7 : ¬ (F2 6 = 0)) => ?_)
      · skip
        refine lv_aload_n hx hb dX0_listen_79 rfl (lv_at hl 1 rfl) ?_
        refine va_get (ci := 4) (v := .int (F2 7)) (C := RX4) (T := TX4) (N := 7) hx hb ht inX4 hown hK.1 hP14 2 rfl rfl 3 (by decide) (ht _ q_170) (fun _ h9 => h9) rfl dX0_listen_80 ?_
        refine lv_if_eq (x := F2 7) (tgt := 97) hx hb dX0_listen_83 (by decide) (fun (c8 : F2 7 = 0) => ?_) (fun (c8 : ¬ (F2 7 = 0)) => ?_)
        · skip
          have e0 : s_X0_listen_X X Y = upd (upd (upd (upd (upd (upd (upd X 8 0) 11 (F2 1)) 12 (F2 2)) 13 (F2 3)) 14 (F2 4)) 15 (F2 5)) 5 r6 := by rw [s_X0_listen_X]; (try rw [hF2]); (try rw [hr1]); (try rw [hr6]); rw [if_neg c3, if_neg c5, if_pos c7, if_pos c8]
          subst hF2
          subst hr1
          subst hr6
          exact k_vret kx hK hP14 hD15 hS13 (u := upd (upd (upd (upd (upd (upd (upd X 8 0) 11 ((s_X4_takeOff_Y Y) 1)) 12 ((s_X4_takeOff_Y Y) 2)) 13 ((s_X4_takeOff_Y Y) 3)) 14 ((s_X4_takeOff_Y Y) 4)) 15 ((s_X4_takeOff_Y Y) 5)) 5 (r_X0_moodByWhatIsKnown (upd (upd (upd (upd (upd (upd X 8 0) 11 ((s_X4_takeOff_Y Y) 1)) 12 ((s_X4_takeOff_Y Y) 2)) 13 ((s_X4_takeOff_Y Y) 3)) 14 ((s_X4_takeOff_Y Y) 4)) 15 ((s_X4_takeOff_Y Y) 5)))) rfl (by first | rfl | exact e0.symm) dX0_listen_97
        · skip
          refine lv_aload_n hx hb dX0_listen_86 rfl (lv_at hl 0 rfl) ?_
          refine va_get (ci := 0) (v := .int (X 6)) (C := RX0) (T := TX0) (N := 12) hx hb ht inX0 hown hK.1 hP14 0 rfl rfl 8 (by decide) (ht _ q_119) (fun _ h9 => h9) rfl dX0_listen_87 ?_
          refine lv_if_eq (x := X 6) (tgt := 97) hx hb dX0_listen_90 (by decide) (fun (c9 : X 6 = 0) => ?_) (fun (c9 : ¬ (X 6 = 0)) => ?_)
          · skip
            have e0 : s_X0_listen_X X Y = upd (upd (upd (upd (upd (upd (upd X 8 0) 11 (F2 1)) 12 (F2 2)) 13 (F2 3)) 14 (F2 4)) 15 (F2 5)) 5 r6 := by rw [s_X0_listen_X]; (try rw [hF2]); (try rw [hr1]); (try rw [hr6]); rw [if_neg c3, if_neg c5, if_pos c7, if_neg c8, if_pos c9]
            subst hF2
            subst hr1
            subst hr6
            exact k_vret kx hK hP14 hD15 hS13 (u := upd (upd (upd (upd (upd (upd (upd X 8 0) 11 ((s_X4_takeOff_Y Y) 1)) 12 ((s_X4_takeOff_Y Y) 2)) 13 ((s_X4_takeOff_Y Y) 3)) 14 ((s_X4_takeOff_Y Y) 4)) 15 ((s_X4_takeOff_Y Y) 5)) 5 (r_X0_moodByWhatIsKnown (upd (upd (upd (upd (upd (upd X 8 0) 11 ((s_X4_takeOff_Y Y) 1)) 12 ((s_X4_takeOff_Y Y) 2)) 13 ((s_X4_takeOff_Y Y) 3)) 14 ((s_X4_takeOff_Y Y) 4)) 15 ((s_X4_takeOff_Y Y) 5)))) rfl (by first | rfl | exact e0.symm) dX0_listen_97
          · skip
            refine lv_aload_n hx hb dX0_listen_93 rfl (lv_at hl 0 rfl) ?_
            refine k_callv (kRunV (As := []) (rest := []) kx (c_X0_endPoll l G (upd (upd (upd (upd (upd (upd (upd X 8 0) 11 (F2 1)) 12 (F2 2)) 13 (F2 3)) 14 (F2 4)) 15 (F2 5)) 5 r6) h0 h1) q_379 q_376 q_32 q_377 q_378 nX0_endPoll ⟨Nat.le_of_ble_eq_true rfl, Nat.le_of_ble_eq_true rfl⟩ hK hP14 hD15 (kCtx_places _ _ [0, 1] rfl rfl) 0 0 rfl rfl rfl rfl hl.1 (Nat.le_of_ble_eq_true rfl) dX0_listen_94 ⟨Nat.zero_le _, Nat.zero_le _⟩) hP14 hD15 hS13 hA (kCtx_places _ _ [0, 1] rfl rfl) (fun _ => rfl) (fun _ H16 locs16 hw hP16 hD16 hS16 => ?_)
            have hP17 : va_P G.1 vwCl ([(h0, .inr (0, cE (upd (upd (upd (upd (upd (upd (upd (upd (upd (upd X 8 0) 11 (F2 1)) 12 (F2 2)) 13 (F2 3)) 14 (F2 4)) 15 (F2 5)) 5 r6) 6 0) 3 (X 0)) 4 (X 1)) h1)), (h1, .inr (2, cT11 (upd (upd (upd (upd (upd (upd (upd (upd (upd (upd X 8 0) 11 (F2 1)) 12 (F2 2)) 13 (F2 3)) 14 (F2 4)) 15 (F2 5)) 5 r6) 6 0) 3 (X 0)) 4 (X 1)))), (h2, .inr (4, cY F2 h3)), (h3, .inr (2, cT1 F2))]) H16 := hP16
            have hD18 : va_D A ([(h0, .inr (0, cE (upd (upd (upd (upd (upd (upd (upd (upd (upd (upd X 8 0) 11 (F2 1)) 12 (F2 2)) 13 (F2 3)) 14 (F2 4)) 15 (F2 5)) 5 r6) 6 0) 3 (X 0)) 4 (X 1)) h1)), (h1, .inr (2, cT11 (upd (upd (upd (upd (upd (upd (upd (upd (upd (upd X 8 0) 11 (F2 1)) 12 (F2 2)) 13 (F2 3)) 14 (F2 4)) 15 (F2 5)) 5 r6) 6 0) 3 (X 0)) 4 (X 1)))), (h2, .inr (4, cY F2 h3)), (h3, .inr (2, cT1 F2))]) := hD16
            have e0 : s_X0_listen_X X Y = upd (upd (upd (upd (upd (upd (upd (upd (upd (upd X 8 0) 11 (F2 1)) 12 (F2 2)) 13 (F2 3)) 14 (F2 4)) 15 (F2 5)) 5 r6) 6 0) 3 (X 0)) 4 (X 1) := by rw [s_X0_listen_X]; (try rw [hF2]); (try rw [hr1]); (try rw [hr6]); rw [if_neg c3, if_neg c5, if_pos c7, if_neg c8, if_neg c9]
            subst hF2
            subst hr1
            subst hr6
            exact k_vret kx hK hP17 hD18 hS16 (u := upd (upd (upd (upd (upd (upd (upd (upd (upd (upd X 8 0) 11 ((s_X4_takeOff_Y Y) 1)) 12 ((s_X4_takeOff_Y Y) 2)) 13 ((s_X4_takeOff_Y Y) 3)) 14 ((s_X4_takeOff_Y Y) 4)) 15 ((s_X4_takeOff_Y Y) 5)) 5 (r_X0_moodByWhatIsKnown (upd (upd (upd (upd (upd (upd X 8 0) 11 ((s_X4_takeOff_Y Y) 1)) 12 ((s_X4_takeOff_Y Y) 2)) 13 ((s_X4_takeOff_Y Y) 3)) 14 ((s_X4_takeOff_Y Y) 4)) 15 ((s_X4_takeOff_Y Y) 5)))) 6 0) 3 (X 0)) 4 (X 1)) rfl (by first | rfl | exact e0.symm) dX0_listen_97
      · skip
        refine lv_aload_n hx hb dX0_listen_74 rfl (lv_at hl 0 rfl) ?_
        refine lv_iconst (v := 1) hx hb dX0_listen_75 (by decide) ?_
        refine va_put (ci := 0) (v := .int 1) (ty := .boolean) (C := RX0) (T := TX0) (N := 12) hx hb ht inX0 tyX0 tyX0_ok nmX0 hown hK.1 hP14 hD15 hS13 0 rfl rfl 10 (by decide) (ht _ q_125) (fun _ h9 => h9) rfl (by decide +kernel) (kb_n kb1) (kb_f kb1) (Nat.le_of_ble_eq_true rfl) dX0_listen_76 (fun H19 locs19 hP19 hD19 hS19 => ?_)
        have hP20 : va_P G.1 vwCl ([(h0, .inr (0, cE (upd (upd (upd (upd (upd (upd (upd (upd X 8 0) 11 (F2 1)) 12 (F2 2)) 13 (F2 3)) 14 (F2 4)) 15 (F2 5)) 5 r6) 10 1) h1)), (h1, .inr (2, cT11 (upd (upd (upd (upd (upd (upd (upd (upd X 8 0) 11 (F2 1)) 12 (F2 2)) 13 (F2 3)) 14 (F2 4)) 15 (F2 5)) 5 r6) 10 1))), (h2, .inr (4, cY F2 h3)), (h3, .inr (2, cT1 F2))]) H19 := hP19
        have hD21 : va_D A ([(h0, .inr (0, cE (upd (upd (upd (upd (upd (upd (upd (upd X 8 0) 11 (F2 1)) 12 (F2 2)) 13 (F2 3)) 14 (F2 4)) 15 (F2 5)) 5 r6) 10 1) h1)), (h1, .inr (2, cT11 (upd (upd (upd (upd (upd (upd (upd (upd X 8 0) 11 (F2 1)) 12 (F2 2)) 13 (F2 3)) 14 (F2 4)) 15 (F2 5)) 5 r6) 10 1))), (h2, .inr (4, cY F2 h3)), (h3, .inr (2, cT1 F2))]) := hD19
        refine lv_aload_n hx hb dX0_listen_79 rfl (lv_at hl 1 rfl) ?_
        refine va_get (ci := 4) (v := .int (F2 7)) (C := RX4) (T := TX4) (N := 7) hx hb ht inX4 hown hK.1 hP20 2 rfl rfl 3 (by decide) (ht _ q_170) (fun _ h9 => h9) rfl dX0_listen_80 ?_
        refine lv_if_eq (x := F2 7) (tgt := 97) hx hb dX0_listen_83 (by decide) (fun (c11 : F2 7 = 0) => ?_) (fun (c11 : ¬ (F2 7 = 0)) => ?_)
        · skip
          have e0 : s_X0_listen_X X Y = upd (upd (upd (upd (upd (upd (upd (upd X 8 0) 11 (F2 1)) 12 (F2 2)) 13 (F2 3)) 14 (F2 4)) 15 (F2 5)) 5 r6) 10 1 := by rw [s_X0_listen_X]; (try rw [hF2]); (try rw [hr1]); (try rw [hr6]); rw [if_neg c3, if_neg c5, if_neg c7, if_pos c11]
          subst hF2
          subst hr1
          subst hr6
          exact k_vret kx hK hP20 hD21 hS19 (u := upd (upd (upd (upd (upd (upd (upd (upd X 8 0) 11 ((s_X4_takeOff_Y Y) 1)) 12 ((s_X4_takeOff_Y Y) 2)) 13 ((s_X4_takeOff_Y Y) 3)) 14 ((s_X4_takeOff_Y Y) 4)) 15 ((s_X4_takeOff_Y Y) 5)) 5 (r_X0_moodByWhatIsKnown (upd (upd (upd (upd (upd (upd X 8 0) 11 ((s_X4_takeOff_Y Y) 1)) 12 ((s_X4_takeOff_Y Y) 2)) 13 ((s_X4_takeOff_Y Y) 3)) 14 ((s_X4_takeOff_Y Y) 4)) 15 ((s_X4_takeOff_Y Y) 5)))) 10 1) rfl (by first | rfl | exact e0.symm) dX0_listen_97
        · skip
          refine lv_aload_n hx hb dX0_listen_86 rfl (lv_at hl 0 rfl) ?_
          refine va_get (ci := 0) (v := .int (X 6)) (C := RX0) (T := TX0) (N := 12) hx hb ht inX0 hown hK.1 hP20 0 rfl rfl 8 (by decide) (ht _ q_119) (fun _ h9 => h9) rfl dX0_listen_87 ?_
          refine lv_if_eq (x := X 6) (tgt := 97) hx hb dX0_listen_90 (by decide) (fun (c12 : X 6 = 0) => ?_) (fun (c12 : ¬ (X 6 = 0)) => ?_)
          · skip
            have e0 : s_X0_listen_X X Y = upd (upd (upd (upd (upd (upd (upd (upd X 8 0) 11 (F2 1)) 12 (F2 2)) 13 (F2 3)) 14 (F2 4)) 15 (F2 5)) 5 r6) 10 1 := by rw [s_X0_listen_X]; (try rw [hF2]); (try rw [hr1]); (try rw [hr6]); rw [if_neg c3, if_neg c5, if_neg c7, if_neg c11, if_pos c12]
            subst hF2
            subst hr1
            subst hr6
            exact k_vret kx hK hP20 hD21 hS19 (u := upd (upd (upd (upd (upd (upd (upd (upd X 8 0) 11 ((s_X4_takeOff_Y Y) 1)) 12 ((s_X4_takeOff_Y Y) 2)) 13 ((s_X4_takeOff_Y Y) 3)) 14 ((s_X4_takeOff_Y Y) 4)) 15 ((s_X4_takeOff_Y Y) 5)) 5 (r_X0_moodByWhatIsKnown (upd (upd (upd (upd (upd (upd X 8 0) 11 ((s_X4_takeOff_Y Y) 1)) 12 ((s_X4_takeOff_Y Y) 2)) 13 ((s_X4_takeOff_Y Y) 3)) 14 ((s_X4_takeOff_Y Y) 4)) 15 ((s_X4_takeOff_Y Y) 5)))) 10 1) rfl (by first | rfl | exact e0.symm) dX0_listen_97
          · skip
            refine lv_aload_n hx hb dX0_listen_93 rfl (lv_at hl 0 rfl) ?_
            refine k_callv (kRunV (As := []) (rest := []) kx (c_X0_endPoll l G (upd (upd (upd (upd (upd (upd (upd (upd X 8 0) 11 (F2 1)) 12 (F2 2)) 13 (F2 3)) 14 (F2 4)) 15 (F2 5)) 5 r6) 10 1) h0 h1) q_379 q_376 q_32 q_377 q_378 nX0_endPoll ⟨Nat.le_of_ble_eq_true rfl, Nat.le_of_ble_eq_true rfl⟩ hK hP20 hD21 (kCtx_places _ _ [0, 1] rfl rfl) 0 0 rfl rfl rfl rfl hl.1 (Nat.le_of_ble_eq_true rfl) dX0_listen_94 ⟨Nat.zero_le _, Nat.zero_le _⟩) hP20 hD21 hS19 hA (kCtx_places _ _ [0, 1] rfl rfl) (fun _ => rfl) (fun _ H22 locs22 hw hP22 hD22 hS22 => ?_)
            have hP23 : va_P G.1 vwCl ([(h0, .inr (0, cE (upd (upd (upd (upd (upd (upd (upd (upd (upd (upd (upd X 8 0) 11 (F2 1)) 12 (F2 2)) 13 (F2 3)) 14 (F2 4)) 15 (F2 5)) 5 r6) 10 1) 6 0) 3 (X 0)) 4 (X 1)) h1)), (h1, .inr (2, cT11 (upd (upd (upd (upd (upd (upd (upd (upd (upd (upd (upd X 8 0) 11 (F2 1)) 12 (F2 2)) 13 (F2 3)) 14 (F2 4)) 15 (F2 5)) 5 r6) 10 1) 6 0) 3 (X 0)) 4 (X 1)))), (h2, .inr (4, cY F2 h3)), (h3, .inr (2, cT1 F2))]) H22 := hP22
            have hD24 : va_D A ([(h0, .inr (0, cE (upd (upd (upd (upd (upd (upd (upd (upd (upd (upd (upd X 8 0) 11 (F2 1)) 12 (F2 2)) 13 (F2 3)) 14 (F2 4)) 15 (F2 5)) 5 r6) 10 1) 6 0) 3 (X 0)) 4 (X 1)) h1)), (h1, .inr (2, cT11 (upd (upd (upd (upd (upd (upd (upd (upd (upd (upd (upd X 8 0) 11 (F2 1)) 12 (F2 2)) 13 (F2 3)) 14 (F2 4)) 15 (F2 5)) 5 r6) 10 1) 6 0) 3 (X 0)) 4 (X 1)))), (h2, .inr (4, cY F2 h3)), (h3, .inr (2, cT1 F2))]) := hD22
            have e0 : s_X0_listen_X X Y = upd (upd (upd (upd (upd (upd (upd (upd (upd (upd (upd X 8 0) 11 (F2 1)) 12 (F2 2)) 13 (F2 3)) 14 (F2 4)) 15 (F2 5)) 5 r6) 10 1) 6 0) 3 (X 0)) 4 (X 1) := by rw [s_X0_listen_X]; (try rw [hF2]); (try rw [hr1]); (try rw [hr6]); rw [if_neg c3, if_neg c5, if_neg c7, if_neg c11, if_neg c12]
            subst hF2
            subst hr1
            subst hr6
            exact k_vret kx hK hP23 hD24 hS22 (u := upd (upd (upd (upd (upd (upd (upd (upd (upd (upd (upd X 8 0) 11 ((s_X4_takeOff_Y Y) 1)) 12 ((s_X4_takeOff_Y Y) 2)) 13 ((s_X4_takeOff_Y Y) 3)) 14 ((s_X4_takeOff_Y Y) 4)) 15 ((s_X4_takeOff_Y Y) 5)) 5 (r_X0_moodByWhatIsKnown (upd (upd (upd (upd (upd (upd X 8 0) 11 ((s_X4_takeOff_Y Y) 1)) 12 ((s_X4_takeOff_Y Y) 2)) 13 ((s_X4_takeOff_Y Y) 3)) 14 ((s_X4_takeOff_Y Y) 4)) 15 ((s_X4_takeOff_Y Y) 5)))) 10 1) 6 0) 3 (X 0)) 4 (X 1)) rfl (by first | rfl | exact e0.symm) dX0_listen_97
    · skip
      refine lv_aload_n hx hb dX0_listen_42 rfl (lv_at hl 0 rfl) ?_
      refine va_get (ci := 0) (v := .ref h1) (C := RX0) (T := TX0) (N := 12) hx hb ht inX0 hown hK.1 hP8 0 rfl rfl 11 (by decide) (ht _ q_128) (fun _ h9 => h9) rfl dX0_listen_43 ?_
      refine va_get (ci := 2) (v := .int (F2 1)) (C := RX2) (T := TX2) (N := 5) hx hb ht inX2 hown hK.1 hP8 1 rfl rfl 0 (by decide) (ht _ q_81) (fun _ h9 => h9) rfl dX0_listen_46 ?_
      refine lv_if_ne (x := F2 1) (tgt := 59) hx hb dX0_listen_49 (by decide) (fun (c14 : ¬ (F2 1 = 0)) => ?_) (fun (c14 : F2 1 = 0) => ?_)
      · skip
        refine lv_aload_n hx hb dX0_listen_59 rfl (lv_at hl 0 rfl) ?_
        refine lv_aload_n hx hb dX0_listen_60 rfl (lv_at hl 0 rfl) ?_
        refine k_calli (kRunV (As := []) (rest := [.ref h0]) kx (c_X0_moodByWhatIsKnown l G (upd (upd (upd (upd (upd (upd X 8 0) 11 (F2 1)) 12 (F2 2)) 13 (F2 3)) 14 (F2 4)) 15 (F2 5)) h0 h1) q_383 q_380 q_32 q_382 q_0 nX0_moodByWhatIsKnown ⟨Nat.le_of_ble_eq_true rfl, Nat.le_of_ble_eq_true rfl⟩ hK hP8 hD9 (kCtx_places _ _ [0, 1] rfl rfl) 0 0 rfl rfl rfl rfl hl.1 (Nat.le_of_ble_eq_true rfl) dX0_listen_61 ⟨Nat.zero_le _, Nat.zero_le _⟩) hP8 hD9 hS7 hA (kCtx_places _ _ [0, 1] rfl rfl) (fun _ => rfl) (fun r15 _ H25 locs25 hw hP25 hD25 hS25 => ?_)
        have hr15 : r_X0_moodByWhatIsKnown (upd (upd (upd (upd (upd (upd X 8 0) 11 (F2 1)) 12 (F2 2)) 13 (F2 3)) 14 (F2 4)) 15 (F2 5)) = r15 := (show r15 = r_X0_moodByWhatIsKnown (upd (upd (upd (upd (upd (upd X 8 0) 11 (F2 1)) 12 (F2 2)) 13 (F2 3)) 14 (F2 4)) 15 (F2 5)) from hw).symm
        have hP26 : va_P G.1 vwCl ([(h0, .inr (0, cE (upd (upd (upd (upd (upd (upd X 8 0) 11 (F2 1)) 12 (F2 2)) 13 (F2 3)) 14 (F2 4)) 15 (F2 5)) h1)), (h1, .inr (2, cT11 (upd (upd (upd (upd (upd (upd X 8 0) 11 (F2 1)) 12 (F2 2)) 13 (F2 3)) 14 (F2 4)) 15 (F2 5)))), (h2, .inr (4, cY F2 h3)), (h3, .inr (2, cT1 F2))]) H25 := hP25
        have hD27 : va_D A ([(h0, .inr (0, cE (upd (upd (upd (upd (upd (upd X 8 0) 11 (F2 1)) 12 (F2 2)) 13 (F2 3)) 14 (F2 4)) 15 (F2 5)) h1)), (h1, .inr (2, cT11 (upd (upd (upd (upd (upd (upd X 8 0) 11 (F2 1)) 12 (F2 2)) 13 (F2 3)) 14 (F2 4)) 15 (F2 5)))), (h2, .inr (4, cY F2 h3)), (h3, .inr (2, cT1 F2))]) := hD25
        refine va_put (ci := 0) (v := .int r15) (ty := .int) (C := RX0) (T := TX0) (N := 12) hx hb ht inX0 tyX0 tyX0_ok nmX0 hown hK.1 hP26 hD27 hS25 0 rfl rfl 5 (by decide) (ht _ q_111) (fun _ h9 => h9) rfl (by decide +kernel) rfl rfl (Nat.le_of_ble_eq_true rfl) dX0_listen_64 (fun H28 locs28 hP28 hD28 hS28 => ?_)
        have hP29 : va_P G.1 vwCl ([(h0, .inr (0, cE (upd (upd (upd (upd (upd (upd (upd X 8 0) 11 (F2 1)) 12 (F2 2)) 13 (F2 3)) 14 (F2 4)) 15 (F2 5)) 5 r15) h1)), (h1, .inr (2, cT11 (upd (upd (upd (upd (upd (upd (upd X 8 0) 11 (F2 1)) 12 (F2 2)) 13 (F2 3)) 14 (F2 4)) 15 (F2 5)) 5 r15))), (h2, .inr (4, cY F2 h3)), (h3, .inr (2, cT1 F2))]) H28 := hP28
        have hD30 : va_D A ([(h0, .inr (0, cE (upd (upd (upd (upd (upd (upd (upd X 8 0) 11 (F2 1)) 12 (F2 2)) 13 (F2 3)) 14 (F2 4)) 15 (F2 5)) 5 r15) h1)), (h1, .inr (2, cT11 (upd (upd (upd (upd (upd (upd (upd X 8 0) 11 (F2 1)) 12 (F2 2)) 13 (F2 3)) 14 (F2 4)) 15 (F2 5)) 5 r15))), (h2, .inr (4, cY F2 h3)), (h3, .inr (2, cT1 F2))]) := hD28
        refine lv_aload_n hx hb dX0_listen_67 rfl (lv_at hl 1 rfl) ?_
        refine va_get (ci := 4) (v := .int (F2 6)) (C := RX4) (T := TX4) (N := 7) hx hb ht inX4 hown hK.1 hP29 2 rfl rfl 2 (by decide) (ht _ q_168) (fun _ h9 => h9) rfl dX0_listen_68 ?_
        refine lv_if_eq (x := F2 6) (tgt := 79) hx hb dX0_listen_71 (by decide) (fun (c16 : F2 6 = 0) => ?_) (fun (c16 : ¬ (F2 6 = 0)) => ?_)
        · skip
          refine lv_aload_n hx hb dX0_listen_79 rfl (lv_at hl 1 rfl) ?_
          refine va_get (ci := 4) (v := .int (F2 7)) (C := RX4) (T := TX4) (N := 7) hx hb ht inX4 hown hK.1 hP29 2 rfl rfl 3 (by decide) (ht _ q_170) (fun _ h9 => h9) rfl dX0_listen_80 ?_
          refine lv_if_eq (x := F2 7) (tgt := 97) hx hb dX0_listen_83 (by decide) (fun (c17 : F2 7 = 0) => ?_) (fun (c17 : ¬ (F2 7 = 0)) => ?_)
          · skip
            have e0 : s_X0_listen_X X Y = upd (upd (upd (upd (upd (upd (upd X 8 0) 11 (F2 1)) 12 (F2 2)) 13 (F2 3)) 14 (F2 4)) 15 (F2 5)) 5 r15 := by rw [s_X0_listen_X]; (try rw [hF2]); (try rw [hr1]); (try rw [hr15]); rw [if_neg c3, if_pos c5, if_neg c14, if_pos c16, if_pos c17]
            subst hF2
            subst hr1
            subst hr15
            exact k_vret kx hK hP29 hD30 hS28 (u := upd (upd (upd (upd (upd (upd (upd X 8 0) 11 ((s_X4_takeOff_Y Y) 1)) 12 ((s_X4_takeOff_Y Y) 2)) 13 ((s_X4_takeOff_Y Y) 3)) 14 ((s_X4_takeOff_Y Y) 4)) 15 ((s_X4_takeOff_Y Y) 5)) 5 (r_X0_moodByWhatIsKnown (upd (upd (upd (upd (upd (upd X 8 0) 11 ((s_X4_takeOff_Y Y) 1)) 12 ((s_X4_takeOff_Y Y) 2)) 13 ((s_X4_takeOff_Y Y) 3)) 14 ((s_X4_takeOff_Y Y) 4)) 15 ((s_X4_takeOff_Y Y) 5)))) rfl (by first | rfl | exact e0.symm) dX0_listen_97
          · skip
            refine lv_aload_n hx hb dX0_listen_86 rfl (lv_at hl 0 rfl) ?_
            refine va_get (ci := 0) (v := .int (X 6)) (C := RX0) (T := TX0) (N := 12) hx hb ht inX0 hown hK.1 hP29 0 rfl rfl 8 (by decide) (ht _ q_119) (fun _ h9 => h9) rfl dX0_listen_87 ?_
            refine lv_if_eq (x := X 6) (tgt := 97) hx hb dX0_listen_90 (by decide) (fun (c18 : X 6 = 0) => ?_) (fun (c18 : ¬ (X 6 = 0)) => ?_)
            · skip
              have e0 : s_X0_listen_X X Y = upd (upd (upd (upd (upd (upd (upd X 8 0) 11 (F2 1)) 12 (F2 2)) 13 (F2 3)) 14 (F2 4)) 15 (F2 5)) 5 r15 := by rw [s_X0_listen_X]; (try rw [hF2]); (try rw [hr1]); (try rw [hr15]); rw [if_neg c3, if_pos c5, if_neg c14, if_pos c16, if_neg c17, if_pos c18]
              subst hF2
              subst hr1
              subst hr15
              exact k_vret kx hK hP29 hD30 hS28 (u := upd (upd (upd (upd (upd (upd (upd X 8 0) 11 ((s_X4_takeOff_Y Y) 1)) 12 ((s_X4_takeOff_Y Y) 2)) 13 ((s_X4_takeOff_Y Y) 3)) 14 ((s_X4_takeOff_Y Y) 4)) 15 ((s_X4_takeOff_Y Y) 5)) 5 (r_X0_moodByWhatIsKnown (upd (upd (upd (upd (upd (upd X 8 0) 11 ((s_X4_takeOff_Y Y) 1)) 12 ((s_X4_takeOff_Y Y) 2)) 13 ((s_X4_takeOff_Y Y) 3)) 14 ((s_X4_takeOff_Y Y) 4)) 15 ((s_X4_takeOff_Y Y) 5)))) rfl (by first | rfl | exact e0.symm) dX0_listen_97
            · skip
              refine lv_aload_n hx hb dX0_listen_93 rfl (lv_at hl 0 rfl) ?_
              refine k_callv (kRunV (As := []) (rest := []) kx (c_X0_endPoll l G (upd (upd (upd (upd (upd (upd (upd X 8 0) 11 (F2 1)) 12 (F2 2)) 13 (F2 3)) 14 (F2 4)) 15 (F2 5)) 5 r15) h0 h1) q_379 q_376 q_32 q_377 q_378 nX0_endPoll ⟨Nat.le_of_ble_eq_true rfl, Nat.le_of_ble_eq_true rfl⟩ hK hP29 hD30 (kCtx_places _ _ [0, 1] rfl rfl) 0 0 rfl rfl rfl rfl hl.1 (Nat.le_of_ble_eq_true rfl) dX0_listen_94 ⟨Nat.zero_le _, Nat.zero_le _⟩) hP29 hD30 hS28 hA (kCtx_places _ _ [0, 1] rfl rfl) (fun _ => rfl) (fun _ H31 locs31 hw hP31 hD31 hS31 => ?_)
              have hP32 : va_P G.1 vwCl ([(h0, .inr (0, cE (upd (upd (upd (upd (upd (upd (upd (upd (upd (upd X 8 0) 11 (F2 1)) 12 (F2 2)) 13 (F2 3)) 14 (F2 4)) 15 (F2 5)) 5 r15) 6 0) 3 (X 0)) 4 (X 1)) h1)), (h1, .inr (2, cT11 (upd (upd (upd (upd (upd (upd (upd (upd (upd (upd X 8 0) 11 (F2 1)) 12 (F2 2)) 13 (F2 3)) 14 (F2 4)) 15 (F2 5)) 5 r15) 6 0) 3 (X 0)) 4 (X 1)))), (h2, .inr (4, cY F2 h3)), (h3, .inr (2, cT1 F2))]) H31 := hP31
              have hD33 : va_D A ([(h0, .inr (0, cE (upd (upd (upd (upd (upd (upd (upd (upd (upd (upd X 8 0) 11 (F2 1)) 12 (F2 2)) 13 (F2 3)) 14 (F2 4)) 15 (F2 5)) 5 r15) 6 0) 3 (X 0)) 4 (X 1)) h1)), (h1, .inr (2, cT11 (upd (upd (upd (upd (upd (upd (upd (upd (upd (upd X 8 0) 11 (F2 1)) 12 (F2 2)) 13 (F2 3)) 14 (F2 4)) 15 (F2 5)) 5 r15) 6 0) 3 (X 0)) 4 (X 1)))), (h2, .inr (4, cY F2 h3)), (h3, .inr (2, cT1 F2))]) := hD31
              have e0 : s_X0_listen_X X Y = upd (upd (upd (upd (upd (upd (upd (upd (upd (upd X 8 0) 11 (F2 1)) 12 (F2 2)) 13 (F2 3)) 14 (F2 4)) 15 (F2 5)) 5 r15) 6 0) 3 (X 0)) 4 (X 1) := by rw [s_X0_listen_X]; (try rw [hF2]); (try rw [hr1]); (try rw [hr15]); rw [if_neg c3, if_pos c5, if_neg c14, if_pos c16, if_neg c17, if_neg c18]
              subst hF2
              subst hr1
              subst hr15
              exact k_vret kx hK hP32 hD33 hS31 (u := upd (upd (upd (upd (upd (upd (upd (upd (upd (upd X 8 0) 11 ((s_X4_takeOff_Y Y) 1)) 12 ((s_X4_takeOff_Y Y) 2)) 13 ((s_X4_takeOff_Y Y) 3)) 14 ((s_X4_takeOff_Y Y) 4)) 15 ((s_X4_takeOff_Y Y) 5)) 5 (r_X0_moodByWhatIsKnown (upd (upd (upd (upd (upd (upd X 8 0) 11 ((s_X4_takeOff_Y Y) 1)) 12 ((s_X4_takeOff_Y Y) 2)) 13 ((s_X4_takeOff_Y Y) 3)) 14 ((s_X4_takeOff_Y Y) 4)) 15 ((s_X4_takeOff_Y Y) 5)))) 6 0) 3 (X 0)) 4 (X 1)) rfl (by first | rfl | exact e0.symm) dX0_listen_97
        · skip
          refine lv_aload_n hx hb dX0_listen_74 rfl (lv_at hl 0 rfl) ?_
          refine lv_iconst (v := 1) hx hb dX0_listen_75 (by decide) ?_
          refine va_put (ci := 0) (v := .int 1) (ty := .boolean) (C := RX0) (T := TX0) (N := 12) hx hb ht inX0 tyX0 tyX0_ok nmX0 hown hK.1 hP29 hD30 hS28 0 rfl rfl 10 (by decide) (ht _ q_125) (fun _ h9 => h9) rfl (by decide +kernel) (kb_n kb1) (kb_f kb1) (Nat.le_of_ble_eq_true rfl) dX0_listen_76 (fun H34 locs34 hP34 hD34 hS34 => ?_)
          have hP35 : va_P G.1 vwCl ([(h0, .inr (0, cE (upd (upd (upd (upd (upd (upd (upd (upd X 8 0) 11 (F2 1)) 12 (F2 2)) 13 (F2 3)) 14 (F2 4)) 15 (F2 5)) 5 r15) 10 1) h1)), (h1, .inr (2, cT11 (upd (upd (upd (upd (upd (upd (upd (upd X 8 0) 11 (F2 1)) 12 (F2 2)) 13 (F2 3)) 14 (F2 4)) 15 (F2 5)) 5 r15) 10 1))), (h2, .inr (4, cY F2 h3)), (h3, .inr (2, cT1 F2))]) H34 := hP34
          have hD36 : va_D A ([(h0, .inr (0, cE (upd (upd (upd (upd (upd (upd (upd (upd X 8 0) 11 (F2 1)) 12 (F2 2)) 13 (F2 3)) 14 (F2 4)) 15 (F2 5)) 5 r15) 10 1) h1)), (h1, .inr (2, cT11 (upd (upd (upd (upd (upd (upd (upd (upd X 8 0) 11 (F2 1)) 12 (F2 2)) 13 (F2 3)) 14 (F2 4)) 15 (F2 5)) 5 r15) 10 1))), (h2, .inr (4, cY F2 h3)), (h3, .inr (2, cT1 F2))]) := hD34
          refine lv_aload_n hx hb dX0_listen_79 rfl (lv_at hl 1 rfl) ?_
          refine va_get (ci := 4) (v := .int (F2 7)) (C := RX4) (T := TX4) (N := 7) hx hb ht inX4 hown hK.1 hP35 2 rfl rfl 3 (by decide) (ht _ q_170) (fun _ h9 => h9) rfl dX0_listen_80 ?_
          refine lv_if_eq (x := F2 7) (tgt := 97) hx hb dX0_listen_83 (by decide) (fun (c20 : F2 7 = 0) => ?_) (fun (c20 : ¬ (F2 7 = 0)) => ?_)
          · skip
            have e0 : s_X0_listen_X X Y = upd (upd (upd (upd (upd (upd (upd (upd X 8 0) 11 (F2 1)) 12 (F2 2)) 13 (F2 3)) 14 (F2 4)) 15 (F2 5)) 5 r15) 10 1 := by rw [s_X0_listen_X]; (try rw [hF2]); (try rw [hr1]); (try rw [hr15]); rw [if_neg c3, if_pos c5, if_neg c14, if_neg c16, if_pos c20]
            subst hF2
            subst hr1
            subst hr15
            exact k_vret kx hK hP35 hD36 hS34 (u := upd (upd (upd (upd (upd (upd (upd (upd X 8 0) 11 ((s_X4_takeOff_Y Y) 1)) 12 ((s_X4_takeOff_Y Y) 2)) 13 ((s_X4_takeOff_Y Y) 3)) 14 ((s_X4_takeOff_Y Y) 4)) 15 ((s_X4_takeOff_Y Y) 5)) 5 (r_X0_moodByWhatIsKnown (upd (upd (upd (upd (upd (upd X 8 0) 11 ((s_X4_takeOff_Y Y) 1)) 12 ((s_X4_takeOff_Y Y) 2)) 13 ((s_X4_takeOff_Y Y) 3)) 14 ((s_X4_takeOff_Y Y) 4)) 15 ((s_X4_takeOff_Y Y) 5)))) 10 1) rfl (by first | rfl | exact e0.symm) dX0_listen_97
          · skip
            refine lv_aload_n hx hb dX0_listen_86 rfl (lv_at hl 0 rfl) ?_
            refine va_get (ci := 0) (v := .int (X 6)) (C := RX0) (T := TX0) (N := 12) hx hb ht inX0 hown hK.1 hP35 0 rfl rfl 8 (by decide) (ht _ q_119) (fun _ h9 => h9) rfl dX0_listen_87 ?_
            refine lv_if_eq (x := X 6) (tgt := 97) hx hb dX0_listen_90 (by decide) (fun (c21 : X 6 = 0) => ?_) (fun (c21 : ¬ (X 6 = 0)) => ?_)
            · skip
              have e0 : s_X0_listen_X X Y = upd (upd (upd (upd (upd (upd (upd (upd X 8 0) 11 (F2 1)) 12 (F2 2)) 13 (F2 3)) 14 (F2 4)) 15 (F2 5)) 5 r15) 10 1 := by rw [s_X0_listen_X]; (try rw [hF2]); (try rw [hr1]); (try rw [hr15]); rw [if_neg c3, if_pos c5, if_neg c14, if_neg c16, if_neg c20, if_pos c21]
              subst hF2
              subst hr1
              subst hr15
              exact k_vret kx hK hP35 hD36 hS34 (u := upd (upd (upd (upd (upd (upd (upd (upd X 8 0) 11 ((s_X4_takeOff_Y Y) 1)) 12 ((s_X4_takeOff_Y Y) 2)) 13 ((s_X4_takeOff_Y Y) 3)) 14 ((s_X4_takeOff_Y Y) 4)) 15 ((s_X4_takeOff_Y Y) 5)) 5 (r_X0_moodByWhatIsKnown (upd (upd (upd (upd (upd (upd X 8 0) 11 ((s_X4_takeOff_Y Y) 1)) 12 ((s_X4_takeOff_Y Y) 2)) 13 ((s_X4_takeOff_Y Y) 3)) 14 ((s_X4_takeOff_Y Y) 4)) 15 ((s_X4_takeOff_Y Y) 5)))) 10 1) rfl (by first | rfl | exact e0.symm) dX0_listen_97
            · skip
              refine lv_aload_n hx hb dX0_listen_93 rfl (lv_at hl 0 rfl) ?_
              refine k_callv (kRunV (As := []) (rest := []) kx (c_X0_endPoll l G (upd (upd (upd (upd (upd (upd (upd (upd X 8 0) 11 (F2 1)) 12 (F2 2)) 13 (F2 3)) 14 (F2 4)) 15 (F2 5)) 5 r15) 10 1) h0 h1) q_379 q_376 q_32 q_377 q_378 nX0_endPoll ⟨Nat.le_of_ble_eq_true rfl, Nat.le_of_ble_eq_true rfl⟩ hK hP35 hD36 (kCtx_places _ _ [0, 1] rfl rfl) 0 0 rfl rfl rfl rfl hl.1 (Nat.le_of_ble_eq_true rfl) dX0_listen_94 ⟨Nat.zero_le _, Nat.zero_le _⟩) hP35 hD36 hS34 hA (kCtx_places _ _ [0, 1] rfl rfl) (fun _ => rfl) (fun _ H37 locs37 hw hP37 hD37 hS37 => ?_)
              have hP38 : va_P G.1 vwCl ([(h0, .inr (0, cE (upd (upd (upd (upd (upd (upd (upd (upd (upd (upd (upd X 8 0) 11 (F2 1)) 12 (F2 2)) 13 (F2 3)) 14 (F2 4)) 15 (F2 5)) 5 r15) 10 1) 6 0) 3 (X 0)) 4 (X 1)) h1)), (h1, .inr (2, cT11 (upd (upd (upd (upd (upd (upd (upd (upd (upd (upd (upd X 8 0) 11 (F2 1)) 12 (F2 2)) 13 (F2 3)) 14 (F2 4)) 15 (F2 5)) 5 r15) 10 1) 6 0) 3 (X 0)) 4 (X 1)))), (h2, .inr (4, cY F2 h3)), (h3, .inr (2, cT1 F2))]) H37 := hP37
              have hD39 : va_D A ([(h0, .inr (0, cE (upd (upd (upd (upd (upd (upd (upd (upd (upd (upd (upd X 8 0) 11 (F2 1)) 12 (F2 2)) 13 (F2 3)) 14 (F2 4)) 15 (F2 5)) 5 r15) 10 1) 6 0) 3 (X 0)) 4 (X 1)) h1)), (h1, .inr (2, cT11 (upd (upd (upd (upd (upd (upd (upd (upd (upd (upd (upd X 8 0) 11 (F2 1)) 12 (F2 2)) 13 (F2 3)) 14 (F2 4)) 15 (F2 5)) 5 r15) 10 1) 6 0) 3 (X 0)) 4 (X 1)))), (h2, .inr (4, cY F2 h3)), (h3, .inr (2, cT1 F2))]) := hD37
              have e0 : s_X0_listen_X X Y = upd (upd (upd (upd (upd (upd (upd (upd (upd (upd (upd X 8 0) 11 (F2 1)) 12 (F2 2)) 13 (F2 3)) 14 (F2 4)) 15 (F2 5)) 5 r15) 10 1) 6 0) 3 (X 0)) 4 (X 1) := by rw [s_X0_listen_X]; (try rw [hF2]); (try rw [hr1]); (try rw [hr15]); rw [if_neg c3, if_pos c5, if_neg c14, if_neg c16, if_neg c20, if_neg c21]
              subst hF2
              subst hr1
              subst hr15
              exact k_vret kx hK hP38 hD39 hS37 (u := upd (upd (upd (upd (upd (upd (upd (upd (upd (upd (upd X 8 0) 11 ((s_X4_takeOff_Y Y) 1)) 12 ((s_X4_takeOff_Y Y) 2)) 13 ((s_X4_takeOff_Y Y) 3)) 14 ((s_X4_takeOff_Y Y) 4)) 15 ((s_X4_takeOff_Y Y) 5)) 5 (r_X0_moodByWhatIsKnown (upd (upd (upd (upd (upd (upd X 8 0) 11 ((s_X4_takeOff_Y Y) 1)) 12 ((s_X4_takeOff_Y Y) 2)) 13 ((s_X4_takeOff_Y Y) 3)) 14 ((s_X4_takeOff_Y Y) 4)) 15 ((s_X4_takeOff_Y Y) 5)))) 10 1) 6 0) 3 (X 0)) 4 (X 1)) rfl (by first | rfl | exact e0.symm) dX0_listen_97
      · skip
        refine lv_aload_n hx hb dX0_listen_52 rfl (lv_at hl 0 rfl) ?_
        refine k_callv (kRunV (As := []) (rest := []) kx (c_X0_fall l G (upd (upd (upd (upd (upd (upd X 8 0) 11 (F2 1)) 12 (F2 2)) 13 (F2 3)) 14 (F2 4)) 15 (F2 5)) h0 h1) q_375 q_372 q_32 q_373 q_374 nX0_fall ⟨Nat.le_of_ble_eq_true rfl, Nat.le_of_ble_eq_true rfl⟩ hK hP8 hD9 (kCtx_places _ _ [0, 1] rfl rfl) 0 0 rfl rfl rfl rfl hl.1 (Nat.le_of_ble_eq_true rfl) dX0_listen_53 ⟨Nat.zero_le _, Nat.zero_le _⟩) hP8 hD9 hS7 hA (kCtx_places _ _ [0, 1] rfl rfl) (fun _ => rfl) (fun _ H40 locs40 hw hP40 hD40 hS40 => ?_)
        have hP41 : va_P G.1 vwCl ([(h0, .inr (0, cE (upd (upd (upd (upd (upd (upd (upd (upd (upd (upd X 8 0) 11 (F2 1)) 12 (F2 2)) 13 (F2 3)) 14 (F2 4)) 15 (F2 5)) 5 0) 6 0) 3 (X 0)) 4 (X 1)) h1)), (h1, .inr (2, cT11 (upd (upd (upd (upd (upd (upd (upd (upd (upd (upd X 8 0) 11 (F2 1)) 12 (F2 2)) 13 (F2 3)) 14 (F2 4)) 15 (F2 5)) 5 0) 6 0) 3 (X 0)) 4 (X 1)))), (h2, .inr (4, cY F2 h3)), (h3, .inr (2, cT1 F2))]) H40 := hP40
        have hD42 : va_D A ([(h0, .inr (0, cE (upd (upd (upd (upd (upd (upd (upd (upd (upd (upd X 8 0) 11 (F2 1)) 12 (F2 2)) 13 (F2 3)) 14 (F2 4)) 15 (F2 5)) 5 0) 6 0) 3 (X 0)) 4 (X 1)) h1)), (h1, .inr (2, cT11 (upd (upd (upd (upd (upd (upd (upd (upd (upd (upd X 8 0) 11 (F2 1)) 12 (F2 2)) 13 (F2 3)) 14 (F2 4)) 15 (F2 5)) 5 0) 6 0) 3 (X 0)) 4 (X 1)))), (h2, .inr (4, cY F2 h3)), (h3, .inr (2, cT1 F2))]) := hD40
        refine lv_goto (tgt := 67) hx hb dX0_listen_56 (by decide) ?_
        refine lv_aload_n hx hb dX0_listen_67 rfl (lv_at hl 1 rfl) ?_
        refine va_get (ci := 4) (v := .int (F2 6)) (C := RX4) (T := TX4) (N := 7) hx hb ht inX4 hown hK.1 hP41 2 rfl rfl 2 (by decide) (ht _ q_168) (fun _ h9 => h9) rfl dX0_listen_68 ?_
        refine lv_if_eq (x := F2 6) (tgt := 79) hx hb dX0_listen_71 (by decide) (fun (c24 : F2 6 = 0) => ?_) (fun (c24 : ¬ (F2 6 = 0)) => ?_)
        · skip
          refine lv_aload_n hx hb dX0_listen_79 rfl (lv_at hl 1 rfl) ?_
          refine va_get (ci := 4) (v := .int (F2 7)) (C := RX4) (T := TX4) (N := 7) hx hb ht inX4 hown hK.1 hP41 2 rfl rfl 3 (by decide) (ht _ q_170) (fun _ h9 => h9) rfl dX0_listen_80 ?_
          refine lv_if_eq (x := F2 7) (tgt := 97) hx hb dX0_listen_83 (by decide) (fun (c25 : F2 7 = 0) => ?_) (fun (c25 : ¬ (F2 7 = 0)) => ?_)
          · skip
            have e0 : s_X0_listen_X X Y = upd (upd (upd (upd (upd (upd (upd (upd (upd (upd X 8 0) 11 (F2 1)) 12 (F2 2)) 13 (F2 3)) 14 (F2 4)) 15 (F2 5)) 5 0) 6 0) 3 (X 0)) 4 (X 1) := by rw [s_X0_listen_X]; (try rw [hF2]); (try rw [hr1]); rw [if_neg c3, if_pos c5, if_pos c14, if_pos c24, if_pos c25]
            subst hF2
            subst hr1
            exact k_vret kx hK hP41 hD42 hS40 (u := upd (upd (upd (upd (upd (upd (upd (upd (upd (upd X 8 0) 11 ((s_X4_takeOff_Y Y) 1)) 12 ((s_X4_takeOff_Y Y) 2)) 13 ((s_X4_takeOff_Y Y) 3)) 14 ((s_X4_takeOff_Y Y) 4)) 15 ((s_X4_takeOff_Y Y) 5)) 5 0) 6 0) 3 (X 0)) 4 (X 1)) rfl (by first | rfl | exact e0.symm) dX0_listen_97
          · skip
            refine lv_aload_n hx hb dX0_listen_86 rfl (lv_at hl 0 rfl) ?_
            refine va_get (ci := 0) (v := .int 0) (C := RX0) (T := TX0) (N := 12) hx hb ht inX0 hown hK.1 hP41 0 rfl rfl 8 (by decide) (ht _ q_119) (fun _ h9 => h9) rfl dX0_listen_87 ?_
            refine lv_if_eq (x := 0) (tgt := 97) hx hb dX0_listen_90 (by decide) (fun (c26 : 0 = 0) => ?_) (fun (c26 : ¬ (0 = 0)) => absurd (by decide) c26)
            have e0 : s_X0_listen_X X Y = upd (upd (upd (upd (upd (upd (upd (upd (upd (upd X 8 0) 11 (F2 1)) 12 (F2 2)) 13 (F2 3)) 14 (F2 4)) 15 (F2 5)) 5 0) 6 0) 3 (X 0)) 4 (X 1) := by rw [s_X0_listen_X]; (try rw [hF2]); (try rw [hr1]); rw [if_neg c3, if_pos c5, if_pos c14, if_pos c24, if_neg c25]
            subst hF2
            subst hr1
            exact k_vret kx hK hP41 hD42 hS40 (u := upd (upd (upd (upd (upd (upd (upd (upd (upd (upd X 8 0) 11 ((s_X4_takeOff_Y Y) 1)) 12 ((s_X4_takeOff_Y Y) 2)) 13 ((s_X4_takeOff_Y Y) 3)) 14 ((s_X4_takeOff_Y Y) 4)) 15 ((s_X4_takeOff_Y Y) 5)) 5 0) 6 0) 3 (X 0)) 4 (X 1)) rfl (by first | rfl | exact e0.symm) dX0_listen_97
        · skip
          refine lv_aload_n hx hb dX0_listen_74 rfl (lv_at hl 0 rfl) ?_
          refine lv_iconst (v := 1) hx hb dX0_listen_75 (by decide) ?_
          refine va_put (ci := 0) (v := .int 1) (ty := .boolean) (C := RX0) (T := TX0) (N := 12) hx hb ht inX0 tyX0 tyX0_ok nmX0 hown hK.1 hP41 hD42 hS40 0 rfl rfl 10 (by decide) (ht _ q_125) (fun _ h9 => h9) rfl (by decide +kernel) (kb_n kb1) (kb_f kb1) (Nat.le_of_ble_eq_true rfl) dX0_listen_76 (fun H43 locs43 hP43 hD43 hS43 => ?_)
          have hP44 : va_P G.1 vwCl ([(h0, .inr (0, cE (upd (upd (upd (upd (upd (upd (upd (upd (upd (upd (upd X 8 0) 11 (F2 1)) 12 (F2 2)) 13 (F2 3)) 14 (F2 4)) 15 (F2 5)) 5 0) 6 0) 3 (X 0)) 4 (X 1)) 10 1) h1)), (h1, .inr (2, cT11 (upd (upd (upd (upd (upd (upd (upd (upd (upd (upd (upd X 8 0) 11 (F2 1)) 12 (F2 2)) 13 (F2 3)) 14 (F2 4)) 15 (F2 5)) 5 0) 6 0) 3 (X 0)) 4 (X 1)) 10 1))), (h2, .inr (4, cY F2 h3)), (h3, .inr (2, cT1 F2))]) H43 := hP43
          have hD45 : va_D A ([(h0, .inr (0, cE (upd (upd (upd (upd (upd (upd (upd (upd (upd (upd (upd X 8 0) 11 (F2 1)) 12 (F2 2)) 13 (F2 3)) 14 (F2 4)) 15 (F2 5)) 5 0) 6 0) 3 (X 0)) 4 (X 1)) 10 1) h1)), (h1, .inr (2, cT11 (upd (upd (upd (upd (upd (upd (upd (upd (upd (upd (upd X 8 0) 11 (F2 1)) 12 (F2 2)) 13 (F2 3)) 14 (F2 4)) 15 (F2 5)) 5 0) 6 0) 3 (X 0)) 4 (X 1)) 10 1))), (h2, .inr (4, cY F2 h3)), (h3, .inr (2, cT1 F2))]) := hD43
          refine lv_aload_n hx hb dX0_listen_79 rfl (lv_at hl 1 rfl) ?_
          refine va_get (ci := 4) (v := .int (F2 7)) (C := RX4) (T := TX4) (N := 7) hx hb ht inX4 hown hK.1 hP44 2 rfl rfl 3 (by decide) (ht _ q_170) (fun _ h9 => h9) rfl dX0_listen_80 ?_
          refine lv_if_eq (x := F2 7) (tgt := 97) hx hb dX0_listen_83 (by decide) (fun (c27 : F2 7 = 0) => ?_) (fun (c27 : ¬ (F2 7 = 0)) => ?_)
          · skip
            have e0 : s_X0_listen_X X Y = upd (upd (upd (upd (upd (upd (upd (upd (upd (upd (upd X 8 0) 11 (F2 1)) 12 (F2 2)) 13 (F2 3)) 14 (F2 4)) 15 (F2 5)) 5 0) 6 0) 3 (X 0)) 4 (X 1)) 10 1 := by rw [s_X0_listen_X]; (try rw [hF2]); (try rw [hr1]); rw [if_neg c3, if_pos c5, if_pos c14, if_neg c24, if_pos c27]
            subst hF2
            subst hr1
            exact k_vret kx hK hP44 hD45 hS43 (u := upd (upd (upd (upd (upd (upd (upd (upd (upd (upd (upd X 8 0) 11 ((s_X4_takeOff_Y Y) 1)) 12 ((s_X4_takeOff_Y Y) 2)) 13 ((s_X4_takeOff_Y Y) 3)) 14 ((s_X4_takeOff_Y Y) 4)) 15 ((s_X4_takeOff_Y Y) 5)) 5 0) 6 0) 3 (X 0)) 4 (X 1)) 10 1) rfl (by first | rfl | exact e0.symm) dX0_listen_97
          · skip
            refine lv_aload_n hx hb dX0_listen_86 rfl (lv_at hl 0 rfl) ?_
            refine va_get (ci := 0) (v := .int 0) (C := RX0) (T := TX0) (N := 12) hx hb ht inX0 hown hK.1 hP44 0 rfl rfl 8 (by decide) (ht _ q_119) (fun _ h9 => h9) rfl dX0_listen_87 ?_
            refine lv_if_eq (x := 0) (tgt := 97) hx hb dX0_listen_90 (by decide) (fun (c28 : 0 = 0) => ?_) (fun (c28 : ¬ (0 = 0)) => absurd (by decide) c28)
            have e0 : s_X0_listen_X X Y = upd (upd (upd (upd (upd (upd (upd (upd (upd (upd (upd X 8 0) 11 (F2 1)) 12 (F2 2)) 13 (F2 3)) 14 (F2 4)) 15 (F2 5)) 5 0) 6 0) 3 (X 0)) 4 (X 1)) 10 1 := by rw [s_X0_listen_X]; (try rw [hF2]); (try rw [hr1]); rw [if_neg c3, if_pos c5, if_pos c14, if_neg c24, if_neg c27]
            subst hF2
            subst hr1
            exact k_vret kx hK hP44 hD45 hS43 (u := upd (upd (upd (upd (upd (upd (upd (upd (upd (upd (upd X 8 0) 11 ((s_X4_takeOff_Y Y) 1)) 12 ((s_X4_takeOff_Y Y) 2)) 13 ((s_X4_takeOff_Y Y) 3)) 14 ((s_X4_takeOff_Y Y) 4)) 15 ((s_X4_takeOff_Y Y) 5)) 5 0) 6 0) 3 (X 0)) 4 (X 1)) 10 1) rfl (by first | rfl | exact e0.symm) dX0_listen_97
  · skip
    refine lv_aload_n hx hb dX0_listen_7 rfl (lv_at hl 0 rfl) ?_
    refine lv_dup hx hb dX0_listen_8 rfl ?_
    refine va_get (ci := 0) (v := .int (X 8)) (C := RX0) (T := TX0) (N := 12) hx hb ht inX0 hown hK.1 hP2 0 rfl rfl 6 (by decide) (ht _ q_116) (fun _ h9 => h9) rfl dX0_listen_9 ?_
    refine lv_iconst (v := 1) hx hb dX0_listen_12 (by decide) ?_
    refine lv_iadd hx hb dX0_listen_13 ?_
    refine va_put (ci := 0) (v := .int ((X 8) + 1)) (ty := .int) (C := RX0) (T := TX0) (N := 12) hx hb ht inX0 tyX0 tyX0_ok nmX0 hown hK.1 hP2 hD3 hS1 0 rfl rfl 6 (by decide) (ht _ q_116) (fun _ h9 => h9) rfl (by decide +kernel) rfl rfl (Nat.le_of_ble_eq_true rfl) dX0_listen_14 (fun H46 locs46 hP46 hD46 hS46 => ?_)
    have hP47 : va_P G.1 vwCl ([(h0, .inr (0, cE (upd X 8 ((X 8) + 1)) h1)), (h1, .inr (2, cT11 (upd X 8 ((X 8) + 1)))), (h2, .inr (4, cY F2 h3)), (h3, .inr (2, cT1 F2))]) H46 := hP46
    have hD48 : va_D A ([(h0, .inr (0, cE (upd X 8 ((X 8) + 1)) h1)), (h1, .inr (2, cT11 (upd X 8 ((X 8) + 1)))), (h2, .inr (4, cY F2 h3)), (h3, .inr (2, cT1 F2))]) := hD46
    have e0 : s_X0_listen_X X Y = upd X 8 ((X 8) + 1) := by rw [s_X0_listen_X]; (try rw [hF2]); (try rw [hr1]); rw [if_pos c3]
    subst hF2
    subst hr1
    exact k_vret kx hK hP47 hD48 hS46 (u := upd X 8 ((X 8) + 1)) rfl (by first | rfl | exact e0.symm) dX0_listen_17
theorem b_s_X0_listen_X (X : Nat → Int32) (Y : Nat → Int32) (hX : bE X) (hY : bY Y) : bE (s_X0_listen_X X Y) := by
  unfold s_X0_listen_X
  split
  · skip
    exact ⟨hX.1, hX.2.1, hX.2.2.1, hX.2.2.2⟩
  · skip
    split
    · skip
      split
      · skip
        split
        · skip
          split
          · skip
            exact ⟨kb0, hX.2.1, hX.2.2.1, (b_s_X4_takeOff_Y Y hY).2.1⟩
          · skip
            exact ⟨kb0, hX.2.1, hX.2.2.1, (b_s_X4_takeOff_Y Y hY).2.1⟩
        · skip
          split
          · skip
            exact ⟨kb0, hX.2.1, kb1, (b_s_X4_takeOff_Y Y hY).2.1⟩
          · skip
            exact ⟨kb0, hX.2.1, kb1, (b_s_X4_takeOff_Y Y hY).2.1⟩
      · skip
        split
        · skip
          split
          · skip
            exact ⟨hX.1, hX.2.1, hX.2.2.1, (b_s_X4_takeOff_Y Y hY).2.1⟩
          · skip
            split
            · skip
              exact ⟨hX.1, hX.2.1, hX.2.2.1, (b_s_X4_takeOff_Y Y hY).2.1⟩
            · skip
              exact ⟨kb0, hX.2.1, hX.2.2.1, (b_s_X4_takeOff_Y Y hY).2.1⟩
        · skip
          split
          · skip
            exact ⟨hX.1, hX.2.1, kb1, (b_s_X4_takeOff_Y Y hY).2.1⟩
          · skip
            split
            · skip
              exact ⟨hX.1, hX.2.1, kb1, (b_s_X4_takeOff_Y Y hY).2.1⟩
            · skip
              exact ⟨kb0, hX.2.1, kb1, (b_s_X4_takeOff_Y Y hY).2.1⟩
    · skip
      split
      · skip
        split
        · skip
          exact ⟨hX.1, hX.2.1, hX.2.2.1, (b_s_X4_takeOff_Y Y hY).2.1⟩
        · skip
          split
          · skip
            exact ⟨hX.1, hX.2.1, hX.2.2.1, (b_s_X4_takeOff_Y Y hY).2.1⟩
          · skip
            exact ⟨kb0, hX.2.1, hX.2.2.1, (b_s_X4_takeOff_Y Y hY).2.1⟩
      · skip
        split
        · skip
          exact ⟨hX.1, hX.2.1, kb1, (b_s_X4_takeOff_Y Y hY).2.1⟩
        · skip
          split
          · skip
            exact ⟨hX.1, hX.2.1, kb1, (b_s_X4_takeOff_Y Y hY).2.1⟩
          · skip
            exact ⟨kb0, hX.2.1, kb1, (b_s_X4_takeOff_Y Y hY).2.1⟩

def s_X0_fallIfSilent_X (X : Nat → Int32) : Nat → Int32 := if X 5 = 0 then X else if (r_X0_trusts X) = 0 then (if X 8 < (r_X0_limit X) then X else upd (upd (upd (upd (upd X 5 0) 6 0) 3 (X 0)) 4 (X 1)) 11 0) else X
set_option maxHeartbeats 4000000 in
set_option maxRecDepth 100000 in
theorem c_X0_fallIfSilent (l : Launch) (G : kG) (X : Nat → Int32) (h0 : Nat) (h1 : Nat) : cG l G yX0_fallIfSilent cX0_fallIfSilent 1 none 2 [.ref h0] ([(h0, .inr (0, cE X h1)), (h1, .inr (2, cT11 X))]) (qV G (fun u : (Nat → Int32) => u = s_X0_fallIfSilent_X X) (fun u => [(h0, .inr (0, cE u h1)), (h1, .inr (2, cT11 u))])) := by
  refine kintro (by decide) (Nat.le_of_ble_eq_true rfl) ?_
  intro p e s m args below meth c A ls kx hK hP hD hS hA hl
  have kx : kX p s m args meth c cX0_fallIfSilent 1 none RX0 := kx
  have hx := kx.1
  have hb := kx.2.1
  have hown := kx.2.2.2.2.1
  have ht := kx.2.2.2.2.2.2
  have hl : lv_has ls 1 [(0, .ref h0)] := hl
  refine lv_aload_n hx hb dX0_fallIfSilent_0 rfl (lv_at hl 0 rfl) ?_
  refine va_get (ci := 0) (v := .int (X 5)) (C := RX0) (T := TX0) (N := 12) hx hb ht inX0 hown hK.1 hP 0 rfl rfl 5 (by decide) (ht _ q_111) (fun _ h9 => h9) rfl dX0_fallIfSilent_1 ?_
  refine lv_if_eq (x := X 5) (tgt := 37) hx hb dX0_fallIfSilent_4 (by decide) (fun (c1 : X 5 = 0) => ?_) (fun (c1 : ¬ (X 5 = 0)) => ?_)
  · skip
    have e0 : s_X0_fallIfSilent_X X = X := by rw [s_X0_fallIfSilent_X, if_pos c1]
    exact k_vret kx hK hP hD hS (u := X) rfl e0.symm dX0_fallIfSilent_37
  · skip
    refine lv_aload_n hx hb dX0_fallIfSilent_7 rfl (lv_at hl 0 rfl) ?_
    refine k_calli (kRunV (As := []) (rest := []) kx (c_X0_trusts l G X h0 h1) q_391 q_388 q_32 q_389 q_390 nX0_trusts ⟨Nat.le_of_ble_eq_true rfl, Nat.le_of_ble_eq_true rfl⟩ hK hP hD (kCtx_all _) 0 0 rfl rfl rfl rfl hl.1 (Nat.le_of_ble_eq_true rfl) dX0_fallIfSilent_8 ⟨Nat.zero_le _, Nat.zero_le _⟩) hP hD hS hA (kCtx_all _) (fun _ => rfl) (fun r2 _ H1 locs1 hw hP1 hD1 hS1 => ?_)
    have hr2 : r_X0_trusts X = r2 := (show r2 = r_X0_trusts X from hw).symm
    have hP2 : va_P G.1 vwCl ([(h0, .inr (0, cE X h1)), (h1, .inr (2, cT11 X))]) H1 := hP1
    have hD3 : va_D A ([(h0, .inr (0, cE X h1)), (h1, .inr (2, cT11 X))]) := hD1
    refine lv_if_ne (x := r2) (tgt := 37) hx hb dX0_fallIfSilent_11 (by decide) (fun (c3 : ¬ (r2 = 0)) => ?_) (fun (c3 : r2 = 0) => ?_)
    · skip
      have e0 : s_X0_fallIfSilent_X X = X := by rw [s_X0_fallIfSilent_X]; (try rw [hr2]); rw [if_neg c1, if_neg c3]
      exact k_vret kx hK hP2 hD3 hS1 (u := X) rfl e0.symm dX0_fallIfSilent_37
    · skip
      refine lv_aload_n hx hb dX0_fallIfSilent_14 rfl (lv_at hl 0 rfl) ?_
      refine va_get (ci := 0) (v := .int (X 8)) (C := RX0) (T := TX0) (N := 12) hx hb ht inX0 hown hK.1 hP2 0 rfl rfl 6 (by decide) (ht _ q_116) (fun _ h9 => h9) rfl dX0_fallIfSilent_15 ?_
      refine lv_aload_n hx hb dX0_fallIfSilent_18 rfl (lv_at hl 0 rfl) ?_
      refine k_calli (kRunV (As := []) (rest := [.int (X 8)]) kx (c_X0_limit l G X h0 h1) q_399 q_396 q_32 q_397 q_398 nX0_limit ⟨Nat.le_of_ble_eq_true rfl, Nat.le_of_ble_eq_true rfl⟩ hK hP2 hD3 (kCtx_all _) 0 0 rfl rfl rfl rfl hl.1 (Nat.le_of_ble_eq_true rfl) dX0_fallIfSilent_19 ⟨Nat.zero_le _, Nat.zero_le _⟩) hP2 hD3 hS1 hA (kCtx_all _) (fun _ => rfl) (fun r4 _ H4 locs4 hw hP4 hD4 hS4 => ?_)
      have hr4 : r_X0_limit X = r4 := (show r4 = r_X0_limit X from hw).symm
      have hP5 : va_P G.1 vwCl ([(h0, .inr (0, cE X h1)), (h1, .inr (2, cT11 X))]) H4 := hP4
      have hD6 : va_D A ([(h0, .inr (0, cE X h1)), (h1, .inr (2, cT11 X))]) := hD4
      refine lv_icmp_lt (x := X 8) (y := r4) (tgt := 37) hx hb dX0_fallIfSilent_22 (by decide) (fun (c5 : X 8 < r4) => ?_) (fun (c5 : ¬ (X 8 < r4)) => ?_)
      · skip
        have e0 : s_X0_fallIfSilent_X X = X := by rw [s_X0_fallIfSilent_X]; (try rw [hr2]); (try rw [hr4]); rw [if_neg c1, if_pos c3, if_pos c5]
        exact k_vret kx hK hP5 hD6 hS4 (u := X) rfl e0.symm dX0_fallIfSilent_37
      · skip
        refine lv_aload_n hx hb dX0_fallIfSilent_25 rfl (lv_at hl 0 rfl) ?_
        refine k_callv (kRunV (As := []) (rest := []) kx (c_X0_fall l G X h0 h1) q_375 q_372 q_32 q_373 q_374 nX0_fall ⟨Nat.le_of_ble_eq_true rfl, Nat.le_of_ble_eq_true rfl⟩ hK hP5 hD6 (kCtx_all _) 0 0 rfl rfl rfl rfl hl.1 (Nat.le_of_ble_eq_true rfl) dX0_fallIfSilent_26 ⟨Nat.zero_le _, Nat.zero_le _⟩) hP5 hD6 hS4 hA (kCtx_all _) (fun _ => rfl) (fun _ H7 locs7 hw hP7 hD7 hS7 => ?_)
        have hP8 : va_P G.1 vwCl ([(h0, .inr (0, cE (upd (upd (upd (upd X 5 0) 6 0) 3 (X 0)) 4 (X 1)) h1)), (h1, .inr (2, cT11 (upd (upd (upd (upd X 5 0) 6 0) 3 (X 0)) 4 (X 1))))]) H7 := hP7
        have hD9 : va_D A ([(h0, .inr (0, cE (upd (upd (upd (upd X 5 0) 6 0) 3 (X 0)) 4 (X 1)) h1)), (h1, .inr (2, cT11 (upd (upd (upd (upd X 5 0) 6 0) 3 (X 0)) 4 (X 1))))]) := hD7
        refine lv_aload_n hx hb dX0_fallIfSilent_29 rfl (lv_at hl 0 rfl) ?_
        refine va_get (ci := 0) (v := .ref h1) (C := RX0) (T := TX0) (N := 12) hx hb ht inX0 hown hK.1 hP8 0 rfl rfl 11 (by decide) (ht _ q_128) (fun _ h9 => h9) rfl dX0_fallIfSilent_30 ?_
        refine lv_iconst (v := 0) hx hb dX0_fallIfSilent_33 (by decide) ?_
        refine va_put (ci := 2) (v := .int 0) (ty := .int) (C := RX2) (T := TX2) (N := 5) hx hb ht inX2 tyX2 tyX2_ok nmX2 hown hK.1 hP8 hD9 hS7 1 rfl rfl 0 (by decide) (ht _ q_81) (fun _ h9 => h9) rfl (by decide +kernel) rfl rfl (Nat.le_of_ble_eq_true rfl) dX0_fallIfSilent_34 (fun H10 locs10 hP10 hD10 hS10 => ?_)
        have hP11 : va_P G.1 vwCl ([(h0, .inr (0, cE (upd (upd (upd (upd (upd X 5 0) 6 0) 3 (X 0)) 4 (X 1)) 11 0) h1)), (h1, .inr (2, cT11 (upd (upd (upd (upd (upd X 5 0) 6 0) 3 (X 0)) 4 (X 1)) 11 0)))]) H10 := hP10
        have hD12 : va_D A ([(h0, .inr (0, cE (upd (upd (upd (upd (upd X 5 0) 6 0) 3 (X 0)) 4 (X 1)) 11 0) h1)), (h1, .inr (2, cT11 (upd (upd (upd (upd (upd X 5 0) 6 0) 3 (X 0)) 4 (X 1)) 11 0)))]) := hD10
        have e0 : s_X0_fallIfSilent_X X = upd (upd (upd (upd (upd X 5 0) 6 0) 3 (X 0)) 4 (X 1)) 11 0 := by rw [s_X0_fallIfSilent_X]; (try rw [hr2]); (try rw [hr4]); rw [if_neg c1, if_pos c3, if_neg c5]
        exact k_vret kx hK hP11 hD12 hS10 (u := upd (upd (upd (upd (upd X 5 0) 6 0) 3 (X 0)) 4 (X 1)) 11 0) rfl e0.symm dX0_fallIfSilent_37
theorem b_s_X0_fallIfSilent_X (X : Nat → Int32) (hX : bE X) : bE (s_X0_fallIfSilent_X X) := by
  unfold s_X0_fallIfSilent_X
  split
  · skip
    exact hX
  · skip
    split
    · skip
      split
      · skip
        exact hX
      · skip
        exact ⟨kb0, hX.2.1, hX.2.2.1, hX.2.2.2⟩
    · skip
      exact hX

def s_X0_takeSetting_X (X : Nat → Int32) (p0 : Int32) (p1 : Int32) : Nat → Int32 := if p0 = 0 then (if X 5 = 2 then (if p0 = 2 then (upd (upd X 0 p1) 3 (kMin (X 3) p1)) else upd (upd (upd X 0 p1) 3 (kMin (X 3) p1)) 6 1) else if p0 = 2 then (upd (upd X 0 p1) 3 p1) else upd (upd X 0 p1) 3 p1) else if p0 = 1 then (if X 5 = 2 then (if p0 = 2 then (upd (upd X 1 p1) 4 (kMax (X 4) p1)) else upd (upd (upd X 1 p1) 4 (kMax (X 4) p1)) 6 1) else if p0 = 2 then (upd (upd X 1 p1) 4 p1) else upd (upd X 1 p1) 4 p1) else if p0 = 2 then (upd X 2 p1) else if X 5 = 2 then (upd (upd X 2 p1) 6 1) else upd X 2 p1
set_option maxHeartbeats 4000000 in
set_option maxRecDepth 100000 in
theorem c_X0_takeSetting (l : Launch) (G : kG) (X : Nat → Int32) (h0 : Nat) (h1 : Nat) (p0 : Int32) (p1 : Int32) : cG l G yX0_takeSetting cX0_takeSetting 3 none 1 [.ref h0, .int p0, .int p1] ([(h0, .inr (0, cE X h1)), (h1, .inr (2, cT11 X))]) (qV G (fun u : (Nat → Int32) => u = s_X0_takeSetting_X X p0 p1) (fun u => [(h0, .inr (0, cE u h1)), (h1, .inr (2, cT11 u))])) := by
  refine kintro (by decide) (Nat.le_of_ble_eq_true rfl) ?_
  intro p e s m args below meth c A ls kx hK hP hD hS hA hl
  have kx : kX p s m args meth c cX0_takeSetting 3 none RX0 := kx
  have hx := kx.1
  have hb := kx.2.1
  have hown := kx.2.2.2.2.1
  have ht := kx.2.2.2.2.2.2
  have hl : lv_has ls 3 [(0, .ref h0), (1, .int p0), (2, .int p1)] := hl
  refine lv_iload_n hx hb dX0_takeSetting_0 rfl (lv_at hl 1 rfl) ?_
  refine lv_if_ne (x := p0) (tgt := 36) hx hb dX0_takeSetting_1 (by decide) (fun (c1 : ¬ (p0 = 0)) => ?_) (fun (c1 : p0 = 0) => ?_)
  · skip
    refine lv_iload_n hx hb dX0_takeSetting_36 rfl (lv_at hl 1 rfl) ?_
    refine lv_iconst (v := 1) hx hb dX0_takeSetting_37 (by decide) ?_
    refine lv_icmp_ne (x := p0) (y := 1) (tgt := 73) hx hb dX0_takeSetting_38 (by decide) (fun (c2 : ¬ (p0 = 1)) => ?_) (fun (c2 : p0 = 1) => ?_)
    · skip
      refine lv_aload_n hx hb dX0_takeSetting_73 rfl (lv_at hl 0 rfl) ?_
      refine lv_iload_n hx hb dX0_takeSetting_74 rfl (lv_at hl 2 rfl) ?_
      refine va_put (ci := 0) (v := .int p1) (ty := .int) (C := RX0) (T := TX0) (N := 12) hx hb ht inX0 tyX0 tyX0_ok nmX0 hown hK.1 hP hD hS 0 rfl rfl 2 (by decide) (ht _ q_106) (fun _ h9 => h9) rfl (by decide +kernel) rfl rfl (Nat.le_of_ble_eq_true rfl) dX0_takeSetting_75 (fun H1 locs1 hP1 hD1 hS1 => ?_)
      have hP2 : va_P G.1 vwCl ([(h0, .inr (0, cE (upd X 2 p1) h1)), (h1, .inr (2, cT11 (upd X 2 p1)))]) H1 := hP1
      have hD3 : va_D A ([(h0, .inr (0, cE (upd X 2 p1) h1)), (h1, .inr (2, cT11 (upd X 2 p1)))]) := hD1
      refine lv_iload_n hx hb dX0_takeSetting_78 rfl (lv_at hl 1 rfl) ?_
      refine lv_iconst (v := 2) hx hb dX0_takeSetting_79 (by decide) ?_
      refine lv_icmp_eq (x := p0) (y := 2) (tgt := 96) hx hb dX0_takeSetting_80 (by decide) (fun (c3 : p0 = 2) => ?_) (fun (c3 : ¬ (p0 = 2)) => ?_)
      · skip
        have e0 : s_X0_takeSetting_X X p0 p1 = upd X 2 p1 := by rw [s_X0_takeSetting_X, if_neg c1, if_neg c2, if_pos c3]
        exact k_vret kx hK hP2 hD3 hS1 (u := upd X 2 p1) rfl e0.symm dX0_takeSetting_96
      · skip
        refine lv_aload_n hx hb dX0_takeSetting_83 rfl (lv_at hl 0 rfl) ?_
        refine va_get (ci := 0) (v := .int (X 5)) (C := RX0) (T := TX0) (N := 12) hx hb ht inX0 hown hK.1 hP2 0 rfl rfl 5 (by decide) (ht _ q_111) (fun _ h9 => h9) rfl dX0_takeSetting_84 ?_
        refine lv_iconst (v := 2) hx hb dX0_takeSetting_87 (by decide) ?_
        refine lv_icmp_ne (x := X 5) (y := 2) (tgt := 96) hx hb dX0_takeSetting_88 (by decide) (fun (c4 : ¬ (X 5 = 2)) => ?_) (fun (c4 : X 5 = 2) => ?_)
        · skip
          have e0 : s_X0_takeSetting_X X p0 p1 = upd X 2 p1 := by rw [s_X0_takeSetting_X, if_neg c1, if_neg c2, if_neg c3, if_neg c4]
          exact k_vret kx hK hP2 hD3 hS1 (u := upd X 2 p1) rfl e0.symm dX0_takeSetting_96
        · skip
          refine lv_aload_n hx hb dX0_takeSetting_91 rfl (lv_at hl 0 rfl) ?_
          refine lv_iconst (v := 1) hx hb dX0_takeSetting_92 (by decide) ?_
          refine va_put (ci := 0) (v := .int 1) (ty := .boolean) (C := RX0) (T := TX0) (N := 12) hx hb ht inX0 tyX0 tyX0_ok nmX0 hown hK.1 hP2 hD3 hS1 0 rfl rfl 8 (by decide) (ht _ q_119) (fun _ h9 => h9) rfl (by decide +kernel) (kb_n kb1) (kb_f kb1) (Nat.le_of_ble_eq_true rfl) dX0_takeSetting_93 (fun H4 locs4 hP4 hD4 hS4 => ?_)
          have hP5 : va_P G.1 vwCl ([(h0, .inr (0, cE (upd (upd X 2 p1) 6 1) h1)), (h1, .inr (2, cT11 (upd (upd X 2 p1) 6 1)))]) H4 := hP4
          have hD6 : va_D A ([(h0, .inr (0, cE (upd (upd X 2 p1) 6 1) h1)), (h1, .inr (2, cT11 (upd (upd X 2 p1) 6 1)))]) := hD4
          have e0 : s_X0_takeSetting_X X p0 p1 = upd (upd X 2 p1) 6 1 := by rw [s_X0_takeSetting_X, if_neg c1, if_neg c2, if_neg c3, if_pos c4]
          exact k_vret kx hK hP5 hD6 hS4 (u := upd (upd X 2 p1) 6 1) rfl e0.symm dX0_takeSetting_96
    · skip
      refine lv_aload_n hx hb dX0_takeSetting_41 rfl (lv_at hl 0 rfl) ?_
      refine lv_iload_n hx hb dX0_takeSetting_42 rfl (lv_at hl 2 rfl) ?_
      refine va_put (ci := 0) (v := .int p1) (ty := .int) (C := RX0) (T := TX0) (N := 12) hx hb ht inX0 tyX0 tyX0_ok nmX0 hown hK.1 hP hD hS 0 rfl rfl 1 (by decide) (ht _ q_103) (fun _ h9 => h9) rfl (by decide +kernel) rfl rfl (Nat.le_of_ble_eq_true rfl) dX0_takeSetting_43 (fun H7 locs7 hP7 hD7 hS7 => ?_)
      have hP8 : va_P G.1 vwCl ([(h0, .inr (0, cE (upd X 1 p1) h1)), (h1, .inr (2, cT11 (upd X 1 p1)))]) H7 := hP7
      have hD9 : va_D A ([(h0, .inr (0, cE (upd X 1 p1) h1)), (h1, .inr (2, cT11 (upd X 1 p1)))]) := hD7
      refine lv_aload_n hx hb dX0_takeSetting_46 rfl (lv_at hl 0 rfl) ?_
      refine lv_aload_n hx hb dX0_takeSetting_47 rfl (lv_at hl 0 rfl) ?_
      refine va_get (ci := 0) (v := .int (X 5)) (C := RX0) (T := TX0) (N := 12) hx hb ht inX0 hown hK.1 hP8 0 rfl rfl 5 (by decide) (ht _ q_111) (fun _ h9 => h9) rfl dX0_takeSetting_48 ?_
      refine lv_iconst (v := 2) hx hb dX0_takeSetting_51 (by decide) ?_
      refine lv_icmp_ne (x := X 5) (y := 2) (tgt := 66) hx hb dX0_takeSetting_52 (by decide) (fun (c5 : ¬ (X 5 = 2)) => ?_) (fun (c5 : X 5 = 2) => ?_)
      · skip
        refine lv_iload_n hx hb dX0_takeSetting_66 rfl (lv_at hl 2 rfl) ?_
        refine va_put (ci := 0) (v := .int p1) (ty := .int) (C := RX0) (T := TX0) (N := 12) hx hb ht inX0 tyX0 tyX0_ok nmX0 hown hK.1 hP8 hD9 hS7 0 rfl rfl 4 (by decide) (ht _ q_109) (fun _ h9 => h9) rfl (by decide +kernel) rfl rfl (Nat.le_of_ble_eq_true rfl) dX0_takeSetting_67 (fun H10 locs10 hP10 hD10 hS10 => ?_)
        have hP11 : va_P G.1 vwCl ([(h0, .inr (0, cE (upd (upd X 1 p1) 4 p1) h1)), (h1, .inr (2, cT11 (upd (upd X 1 p1) 4 p1)))]) H10 := hP10
        have hD12 : va_D A ([(h0, .inr (0, cE (upd (upd X 1 p1) 4 p1) h1)), (h1, .inr (2, cT11 (upd (upd X 1 p1) 4 p1)))]) := hD10
        refine lv_goto (tgt := 78) hx hb dX0_takeSetting_70 (by decide) ?_
        refine lv_iload_n hx hb dX0_takeSetting_78 rfl (lv_at hl 1 rfl) ?_
        refine lv_iconst (v := 2) hx hb dX0_takeSetting_79 (by decide) ?_
        refine lv_icmp_eq (x := p0) (y := 2) (tgt := 96) hx hb dX0_takeSetting_80 (by decide) (fun (c6 : p0 = 2) => ?_) (fun (c6 : ¬ (p0 = 2)) => ?_)
        · skip
          have e0 : s_X0_takeSetting_X X p0 p1 = upd (upd X 1 p1) 4 p1 := by rw [s_X0_takeSetting_X, if_neg c1, if_pos c2, if_neg c5, if_pos c6]
          exact k_vret kx hK hP11 hD12 hS10 (u := upd (upd X 1 p1) 4 p1) rfl e0.symm dX0_takeSetting_96
        · skip
          refine lv_aload_n hx hb dX0_takeSetting_83 rfl (lv_at hl 0 rfl) ?_
          refine va_get (ci := 0) (v := .int (X 5)) (C := RX0) (T := TX0) (N := 12) hx hb ht inX0 hown hK.1 hP11 0 rfl rfl 5 (by decide) (ht _ q_111) (fun _ h9 => h9) rfl dX0_takeSetting_84 ?_
          refine lv_iconst (v := 2) hx hb dX0_takeSetting_87 (by decide) ?_
          refine lv_icmp_ne (x := X 5) (y := 2) (tgt := 96) hx hb dX0_takeSetting_88 (by decide) (fun (c7 : ¬ (X 5 = 2)) => ?_) (fun (c7 : X 5 = 2) => absurd c7 c5)
          have e0 : s_X0_takeSetting_X X p0 p1 = upd (upd X 1 p1) 4 p1 := by rw [s_X0_takeSetting_X, if_neg c1, if_pos c2, if_neg c5, if_neg c6]
          exact k_vret kx hK hP11 hD12 hS10 (u := upd (upd X 1 p1) 4 p1) rfl e0.symm dX0_takeSetting_96
      · skip
        refine lv_aload_n hx hb dX0_takeSetting_55 rfl (lv_at hl 0 rfl) ?_
        refine va_get (ci := 0) (v := .int (X 4)) (C := RX0) (T := TX0) (N := 12) hx hb ht inX0 hown hK.1 hP8 0 rfl rfl 4 (by decide) (ht _ q_109) (fun _ h9 => h9) rfl dX0_takeSetting_56 ?_
        refine lv_iload_n hx hb dX0_takeSetting_59 rfl (lv_at hl 2 rfl) ?_
        refine va_mmax hx hb (by rw [kx.2.2.1, hl.1]) hown (ht _ q_337) (ht _ q_338) (ht _ q_37) (ht _ q_339) (Nat.le_of_ble_eq_true rfl) (Nat.le_of_ble_eq_true rfl) (Nat.zero_le _) (Nat.zero_le _) dX0_takeSetting_60 ?_
        refine k_top (y := kMax (X 4) p1) rfl ?_
        refine lv_goto (tgt := 67) hx hb dX0_takeSetting_63 (by decide) ?_
        refine va_put (ci := 0) (v := .int (kMax (X 4) p1)) (ty := .int) (C := RX0) (T := TX0) (N := 12) hx hb ht inX0 tyX0 tyX0_ok nmX0 hown hK.1 hP8 hD9 hS7 0 rfl rfl 4 (by decide) (ht _ q_109) (fun _ h9 => h9) rfl (by decide +kernel) rfl rfl (Nat.le_of_ble_eq_true rfl) dX0_takeSetting_67 (fun H13 locs13 hP13 hD13 hS13 => ?_)
        have hP14 : va_P G.1 vwCl ([(h0, .inr (0, cE (upd (upd X 1 p1) 4 (kMax (X 4) p1)) h1)), (h1, .inr (2, cT11 (upd (upd X 1 p1) 4 (kMax (X 4) p1))))]) H13 := hP13
        have hD15 : va_D A ([(h0, .inr (0, cE (upd (upd X 1 p1) 4 (kMax (X 4) p1)) h1)), (h1, .inr (2, cT11 (upd (upd X 1 p1) 4 (kMax (X 4) p1))))]) := hD13
        refine lv_goto (tgt := 78) hx hb dX0_takeSetting_70 (by decide) ?_
        refine lv_iload_n hx hb dX0_takeSetting_78 rfl (lv_at hl 1 rfl) ?_
        refine lv_iconst (v := 2) hx hb dX0_takeSetting_79 (by decide) ?_
        refine lv_icmp_eq (x := p0) (y := 2) (tgt := 96) hx hb dX0_takeSetting_80 (by decide) (fun (c8 : p0 = 2) => ?_) (fun (c8 : ¬ (p0 = 2)) => ?_)
        · skip
          have e0 : s_X0_takeSetting_X X p0 p1 = upd (upd X 1 p1) 4 (kMax (X 4) p1) := by rw [s_X0_takeSetting_X, if_neg c1, if_pos c2, if_pos c5, if_pos c8]
          exact k_vret kx hK hP14 hD15 hS13 (u := upd (upd X 1 p1) 4 (kMax (X 4) p1)) rfl e0.symm dX0_takeSetting_96
        · skip
          refine lv_aload_n hx hb dX0_takeSetting_83 rfl (lv_at hl 0 rfl) ?_
          refine va_get (ci := 0) (v := .int (X 5)) (C := RX0) (T := TX0) (N := 12) hx hb ht inX0 hown hK.1 hP14 0 rfl rfl 5 (by decide) (ht _ q_111) (fun _ h9 => h9) rfl dX0_takeSetting_84 ?_
          refine lv_iconst (v := 2) hx hb dX0_takeSetting_87 (by decide) ?_
          refine lv_icmp_ne (x := X 5) (y := 2) (tgt := 96) hx hb dX0_takeSetting_88 (by decide) (fun (c9 : ¬ (X 5 = 2)) => absurd c5 c9) (fun (c9 : X 5 = 2) => ?_)
          refine lv_aload_n hx hb dX0_takeSetting_91 rfl (lv_at hl 0 rfl) ?_
          refine lv_iconst (v := 1) hx hb dX0_takeSetting_92 (by decide) ?_
          refine va_put (ci := 0) (v := .int 1) (ty := .boolean) (C := RX0) (T := TX0) (N := 12) hx hb ht inX0 tyX0 tyX0_ok nmX0 hown hK.1 hP14 hD15 hS13 0 rfl rfl 8 (by decide) (ht _ q_119) (fun _ h9 => h9) rfl (by decide +kernel) (kb_n kb1) (kb_f kb1) (Nat.le_of_ble_eq_true rfl) dX0_takeSetting_93 (fun H16 locs16 hP16 hD16 hS16 => ?_)
          have hP17 : va_P G.1 vwCl ([(h0, .inr (0, cE (upd (upd (upd X 1 p1) 4 (kMax (X 4) p1)) 6 1) h1)), (h1, .inr (2, cT11 (upd (upd (upd X 1 p1) 4 (kMax (X 4) p1)) 6 1)))]) H16 := hP16
          have hD18 : va_D A ([(h0, .inr (0, cE (upd (upd (upd X 1 p1) 4 (kMax (X 4) p1)) 6 1) h1)), (h1, .inr (2, cT11 (upd (upd (upd X 1 p1) 4 (kMax (X 4) p1)) 6 1)))]) := hD16
          have e0 : s_X0_takeSetting_X X p0 p1 = upd (upd (upd X 1 p1) 4 (kMax (X 4) p1)) 6 1 := by rw [s_X0_takeSetting_X, if_neg c1, if_pos c2, if_pos c5, if_neg c8]
          exact k_vret kx hK hP17 hD18 hS16 (u := upd (upd (upd X 1 p1) 4 (kMax (X 4) p1)) 6 1) rfl e0.symm dX0_takeSetting_96
  · skip
    refine lv_aload_n hx hb dX0_takeSetting_4 rfl (lv_at hl 0 rfl) ?_
    refine lv_iload_n hx hb dX0_takeSetting_5 rfl (lv_at hl 2 rfl) ?_
    refine va_put (ci := 0) (v := .int p1) (ty := .int) (C := RX0) (T := TX0) (N := 12) hx hb ht inX0 tyX0 tyX0_ok nmX0 hown hK.1 hP hD hS 0 rfl rfl 0 (by decide) (ht _ q_101) (fun _ h9 => h9) rfl (by decide +kernel) rfl rfl (Nat.le_of_ble_eq_true rfl) dX0_takeSetting_6 (fun H19 locs19 hP19 hD19 hS19 => ?_)
    have hP20 : va_P G.1 vwCl ([(h0, .inr (0, cE (upd X 0 p1) h1)), (h1, .inr (2, cT11 (upd X 0 p1)))]) H19 := hP19
    have hD21 : va_D A ([(h0, .inr (0, cE (upd X 0 p1) h1)), (h1, .inr (2, cT11 (upd X 0 p1)))]) := hD19
    refine lv_aload_n hx hb dX0_takeSetting_9 rfl (lv_at hl 0 rfl) ?_
    refine lv_aload_n hx hb dX0_takeSetting_10 rfl (lv_at hl 0 rfl) ?_
    refine va_get (ci := 0) (v := .int (X 5)) (C := RX0) (T := TX0) (N := 12) hx hb ht inX0 hown hK.1 hP20 0 rfl rfl 5 (by decide) (ht _ q_111) (fun _ h9 => h9) rfl dX0_takeSetting_11 ?_
    refine lv_iconst (v := 2) hx hb dX0_takeSetting_14 (by decide) ?_
    refine lv_icmp_ne (x := X 5) (y := 2) (tgt := 29) hx hb dX0_takeSetting_15 (by decide) (fun (c10 : ¬ (X 5 = 2)) => ?_) (fun (c10 : X 5 = 2) => ?_)
    · skip
      refine lv_iload_n hx hb dX0_takeSetting_29 rfl (lv_at hl 2 rfl) ?_
      refine va_put (ci := 0) (v := .int p1) (ty := .int) (C := RX0) (T := TX0) (N := 12) hx hb ht inX0 tyX0 tyX0_ok nmX0 hown hK.1 hP20 hD21 hS19 0 rfl rfl 3 (by decide) (ht _ q_108) (fun _ h9 => h9) rfl (by decide +kernel) rfl rfl (Nat.le_of_ble_eq_true rfl) dX0_takeSetting_30 (fun H22 locs22 hP22 hD22 hS22 => ?_)
      have hP23 : va_P G.1 vwCl ([(h0, .inr (0, cE (upd (upd X 0 p1) 3 p1) h1)), (h1, .inr (2, cT11 (upd (upd X 0 p1) 3 p1)))]) H22 := hP22
      have hD24 : va_D A ([(h0, .inr (0, cE (upd (upd X 0 p1) 3 p1) h1)), (h1, .inr (2, cT11 (upd (upd X 0 p1) 3 p1)))]) := hD22
      refine lv_goto (tgt := 78) hx hb dX0_takeSetting_33 (by decide) ?_
      refine lv_iload_n hx hb dX0_takeSetting_78 rfl (lv_at hl 1 rfl) ?_
      refine lv_iconst (v := 2) hx hb dX0_takeSetting_79 (by decide) ?_
      refine lv_icmp_eq (x := p0) (y := 2) (tgt := 96) hx hb dX0_takeSetting_80 (by decide) (fun (c11 : p0 = 2) => ?_) (fun (c11 : ¬ (p0 = 2)) => ?_)
      · skip
        have e0 : s_X0_takeSetting_X X p0 p1 = upd (upd X 0 p1) 3 p1 := by rw [s_X0_takeSetting_X, if_pos c1, if_neg c10, if_pos c11]
        exact k_vret kx hK hP23 hD24 hS22 (u := upd (upd X 0 p1) 3 p1) rfl e0.symm dX0_takeSetting_96
      · skip
        refine lv_aload_n hx hb dX0_takeSetting_83 rfl (lv_at hl 0 rfl) ?_
        refine va_get (ci := 0) (v := .int (X 5)) (C := RX0) (T := TX0) (N := 12) hx hb ht inX0 hown hK.1 hP23 0 rfl rfl 5 (by decide) (ht _ q_111) (fun _ h9 => h9) rfl dX0_takeSetting_84 ?_
        refine lv_iconst (v := 2) hx hb dX0_takeSetting_87 (by decide) ?_
        refine lv_icmp_ne (x := X 5) (y := 2) (tgt := 96) hx hb dX0_takeSetting_88 (by decide) (fun (c12 : ¬ (X 5 = 2)) => ?_) (fun (c12 : X 5 = 2) => absurd c12 c10)
        have e0 : s_X0_takeSetting_X X p0 p1 = upd (upd X 0 p1) 3 p1 := by rw [s_X0_takeSetting_X, if_pos c1, if_neg c10, if_neg c11]
        exact k_vret kx hK hP23 hD24 hS22 (u := upd (upd X 0 p1) 3 p1) rfl e0.symm dX0_takeSetting_96
    · skip
      refine lv_aload_n hx hb dX0_takeSetting_18 rfl (lv_at hl 0 rfl) ?_
      refine va_get (ci := 0) (v := .int (X 3)) (C := RX0) (T := TX0) (N := 12) hx hb ht inX0 hown hK.1 hP20 0 rfl rfl 3 (by decide) (ht _ q_108) (fun _ h9 => h9) rfl dX0_takeSetting_19 ?_
      refine lv_iload_n hx hb dX0_takeSetting_22 rfl (lv_at hl 2 rfl) ?_
      refine va_mmin hx hb (by rw [kx.2.2.1, hl.1]) hown (ht _ q_334) (ht _ q_335) (ht _ q_37) (ht _ q_336) (Nat.le_of_ble_eq_true rfl) (Nat.le_of_ble_eq_true rfl) (Nat.zero_le _) (Nat.zero_le _) dX0_takeSetting_23 ?_
      refine k_top (y := kMin (X 3) p1) rfl ?_
      refine lv_goto (tgt := 30) hx hb dX0_takeSetting_26 (by decide) ?_
      refine va_put (ci := 0) (v := .int (kMin (X 3) p1)) (ty := .int) (C := RX0) (T := TX0) (N := 12) hx hb ht inX0 tyX0 tyX0_ok nmX0 hown hK.1 hP20 hD21 hS19 0 rfl rfl 3 (by decide) (ht _ q_108) (fun _ h9 => h9) rfl (by decide +kernel) rfl rfl (Nat.le_of_ble_eq_true rfl) dX0_takeSetting_30 (fun H25 locs25 hP25 hD25 hS25 => ?_)
      have hP26 : va_P G.1 vwCl ([(h0, .inr (0, cE (upd (upd X 0 p1) 3 (kMin (X 3) p1)) h1)), (h1, .inr (2, cT11 (upd (upd X 0 p1) 3 (kMin (X 3) p1))))]) H25 := hP25
      have hD27 : va_D A ([(h0, .inr (0, cE (upd (upd X 0 p1) 3 (kMin (X 3) p1)) h1)), (h1, .inr (2, cT11 (upd (upd X 0 p1) 3 (kMin (X 3) p1))))]) := hD25
      refine lv_goto (tgt := 78) hx hb dX0_takeSetting_33 (by decide) ?_
      refine lv_iload_n hx hb dX0_takeSetting_78 rfl (lv_at hl 1 rfl) ?_
      refine lv_iconst (v := 2) hx hb dX0_takeSetting_79 (by decide) ?_
      refine lv_icmp_eq (x := p0) (y := 2) (tgt := 96) hx hb dX0_takeSetting_80 (by decide) (fun (c13 : p0 = 2) => ?_) (fun (c13 : ¬ (p0 = 2)) => ?_)
      · skip
        have e0 : s_X0_takeSetting_X X p0 p1 = upd (upd X 0 p1) 3 (kMin (X 3) p1) := by rw [s_X0_takeSetting_X, if_pos c1, if_pos c10, if_pos c13]
        exact k_vret kx hK hP26 hD27 hS25 (u := upd (upd X 0 p1) 3 (kMin (X 3) p1)) rfl e0.symm dX0_takeSetting_96
      · skip
        refine lv_aload_n hx hb dX0_takeSetting_83 rfl (lv_at hl 0 rfl) ?_
        refine va_get (ci := 0) (v := .int (X 5)) (C := RX0) (T := TX0) (N := 12) hx hb ht inX0 hown hK.1 hP26 0 rfl rfl 5 (by decide) (ht _ q_111) (fun _ h9 => h9) rfl dX0_takeSetting_84 ?_
        refine lv_iconst (v := 2) hx hb dX0_takeSetting_87 (by decide) ?_
        refine lv_icmp_ne (x := X 5) (y := 2) (tgt := 96) hx hb dX0_takeSetting_88 (by decide) (fun (c14 : ¬ (X 5 = 2)) => absurd c10 c14) (fun (c14 : X 5 = 2) => ?_)
        refine lv_aload_n hx hb dX0_takeSetting_91 rfl (lv_at hl 0 rfl) ?_
        refine lv_iconst (v := 1) hx hb dX0_takeSetting_92 (by decide) ?_
        refine va_put (ci := 0) (v := .int 1) (ty := .boolean) (C := RX0) (T := TX0) (N := 12) hx hb ht inX0 tyX0 tyX0_ok nmX0 hown hK.1 hP26 hD27 hS25 0 rfl rfl 8 (by decide) (ht _ q_119) (fun _ h9 => h9) rfl (by decide +kernel) (kb_n kb1) (kb_f kb1) (Nat.le_of_ble_eq_true rfl) dX0_takeSetting_93 (fun H28 locs28 hP28 hD28 hS28 => ?_)
        have hP29 : va_P G.1 vwCl ([(h0, .inr (0, cE (upd (upd (upd X 0 p1) 3 (kMin (X 3) p1)) 6 1) h1)), (h1, .inr (2, cT11 (upd (upd (upd X 0 p1) 3 (kMin (X 3) p1)) 6 1)))]) H28 := hP28
        have hD30 : va_D A ([(h0, .inr (0, cE (upd (upd (upd X 0 p1) 3 (kMin (X 3) p1)) 6 1) h1)), (h1, .inr (2, cT11 (upd (upd (upd X 0 p1) 3 (kMin (X 3) p1)) 6 1)))]) := hD28
        have e0 : s_X0_takeSetting_X X p0 p1 = upd (upd (upd X 0 p1) 3 (kMin (X 3) p1)) 6 1 := by rw [s_X0_takeSetting_X, if_pos c1, if_pos c10, if_neg c13]
        exact k_vret kx hK hP29 hD30 hS28 (u := upd (upd (upd X 0 p1) 3 (kMin (X 3) p1)) 6 1) rfl e0.symm dX0_takeSetting_96
theorem b_s_X0_takeSetting_X (X : Nat → Int32) (p0 : Int32) (p1 : Int32) (hX : bE X) : bE (s_X0_takeSetting_X X p0 p1) := by
  unfold s_X0_takeSetting_X
  split
  · skip
    split
    · skip
      split
      · skip
        exact ⟨hX.1, hX.2.1, hX.2.2.1, hX.2.2.2⟩
      · skip
        exact ⟨kb1, hX.2.1, hX.2.2.1, hX.2.2.2⟩
    · skip
      split
      · skip
        exact ⟨hX.1, hX.2.1, hX.2.2.1, hX.2.2.2⟩
      · skip
        exact ⟨hX.1, hX.2.1, hX.2.2.1, hX.2.2.2⟩
  · skip
    split
    · skip
      split
      · skip
        split
        · skip
          exact ⟨hX.1, hX.2.1, hX.2.2.1, hX.2.2.2⟩
        · skip
          exact ⟨kb1, hX.2.1, hX.2.2.1, hX.2.2.2⟩
      · skip
        split
        · skip
          exact ⟨hX.1, hX.2.1, hX.2.2.1, hX.2.2.2⟩
        · skip
          exact ⟨hX.1, hX.2.1, hX.2.2.1, hX.2.2.2⟩
    · skip
      split
      · skip
        exact ⟨hX.1, hX.2.1, hX.2.2.1, hX.2.2.2⟩
      · skip
        split
        · skip
          exact ⟨kb1, hX.2.1, hX.2.2.1, hX.2.2.2⟩
        · skip
          exact ⟨hX.1, hX.2.1, hX.2.2.1, hX.2.2.2⟩

def s_X0_turnDemand_X (X : Nat → Int32) : Nat → Int32 := if X 7 = 0 then (upd X 7 1) else upd X 7 0
set_option maxHeartbeats 4000000 in
set_option maxRecDepth 100000 in
theorem c_X0_turnDemand (l : Launch) (G : kG) (X : Nat → Int32) (h0 : Nat) (h1 : Nat) : cG l G yX0_turnDemand cX0_turnDemand 1 none 0 [.ref h0] ([(h0, .inr (0, cE X h1)), (h1, .inr (2, cT11 X))]) (qV G (fun u : (Nat → Int32) => u = s_X0_turnDemand_X X) (fun u => [(h0, .inr (0, cE u h1)), (h1, .inr (2, cT11 u))])) := by
  refine kintro (by decide) (Nat.le_of_ble_eq_true rfl) ?_
  intro p e s m args below meth c A ls kx hK hP hD hS hA hl
  have kx : kX p s m args meth c cX0_turnDemand 1 none RX0 := kx
  have hx := kx.1
  have hb := kx.2.1
  have hown := kx.2.2.2.2.1
  have ht := kx.2.2.2.2.2.2
  have hl : lv_has ls 1 [(0, .ref h0)] := hl
  refine lv_aload_n hx hb dX0_turnDemand_0 rfl (lv_at hl 0 rfl) ?_
  refine lv_aload_n hx hb dX0_turnDemand_1 rfl (lv_at hl 0 rfl) ?_
  refine va_get (ci := 0) (v := .int (X 7)) (C := RX0) (T := TX0) (N := 12) hx hb ht inX0 hown hK.1 hP 0 rfl rfl 9 (by decide) (ht _ q_122) (fun _ h9 => h9) rfl dX0_turnDemand_2 ?_
  refine lv_if_ne (x := X 7) (tgt := 12) hx hb dX0_turnDemand_5 (by decide) (fun (c1 : ¬ (X 7 = 0)) => ?_) (fun (c1 : X 7 = 0) => ?_)
  · skip
    refine lv_iconst (v := 0) hx hb dX0_turnDemand_12 (by decide) ?_
    refine va_put (ci := 0) (v := .int 0) (ty := .boolean) (C := RX0) (T := TX0) (N := 12) hx hb ht inX0 tyX0 tyX0_ok nmX0 hown hK.1 hP hD hS 0 rfl rfl 9 (by decide) (ht _ q_122) (fun _ h9 => h9) rfl (by decide +kernel) (kb_n kb0) (kb_f kb0) (Nat.le_of_ble_eq_true rfl) dX0_turnDemand_13 (fun H1 locs1 hP1 hD1 hS1 => ?_)
    have hP2 : va_P G.1 vwCl ([(h0, .inr (0, cE (upd X 7 0) h1)), (h1, .inr (2, cT11 (upd X 7 0)))]) H1 := hP1
    have hD3 : va_D A ([(h0, .inr (0, cE (upd X 7 0) h1)), (h1, .inr (2, cT11 (upd X 7 0)))]) := hD1
    have e0 : s_X0_turnDemand_X X = upd X 7 0 := by rw [s_X0_turnDemand_X, if_neg c1]
    exact k_vret kx hK hP2 hD3 hS1 (u := upd X 7 0) rfl e0.symm dX0_turnDemand_16
  · skip
    refine lv_iconst (v := 1) hx hb dX0_turnDemand_8 (by decide) ?_
    refine lv_goto (tgt := 13) hx hb dX0_turnDemand_9 (by decide) ?_
    refine va_put (ci := 0) (v := .int 1) (ty := .boolean) (C := RX0) (T := TX0) (N := 12) hx hb ht inX0 tyX0 tyX0_ok nmX0 hown hK.1 hP hD hS 0 rfl rfl 9 (by decide) (ht _ q_122) (fun _ h9 => h9) rfl (by decide +kernel) (kb_n kb1) (kb_f kb1) (Nat.le_of_ble_eq_true rfl) dX0_turnDemand_13 (fun H4 locs4 hP4 hD4 hS4 => ?_)
    have hP5 : va_P G.1 vwCl ([(h0, .inr (0, cE (upd X 7 1) h1)), (h1, .inr (2, cT11 (upd X 7 1)))]) H4 := hP4
    have hD6 : va_D A ([(h0, .inr (0, cE (upd X 7 1) h1)), (h1, .inr (2, cT11 (upd X 7 1)))]) := hD4
    have e0 : s_X0_turnDemand_X X = upd X 7 1 := by rw [s_X0_turnDemand_X, if_pos c1]
    exact k_vret kx hK hP5 hD6 hS4 (u := upd X 7 1) rfl e0.symm dX0_turnDemand_16
theorem b_s_X0_turnDemand_X (X : Nat → Int32) (hX : bE X) : bE (s_X0_turnDemand_X X) := by
  unfold s_X0_turnDemand_X
  split
  · skip
    exact ⟨hX.1, kb1, hX.2.2.1, hX.2.2.2⟩
  · skip
    exact ⟨hX.1, kb0, hX.2.2.1, hX.2.2.2⟩

def r_X0_canBePolled (X : Nat → Int32) : Int32 := if X 5 = 2 then (if X 6 = 0 then 1 else 0) else 0
set_option maxHeartbeats 4000000 in
set_option maxRecDepth 100000 in
theorem c_X0_canBePolled (l : Launch) (G : kG) (X : Nat → Int32) (h0 : Nat) (h1 : Nat) : cG l G yX0_canBePolled cX0_canBePolled 1 (some .boolean) 0 [.ref h0] ([(h0, .inr (0, cE X h1)), (h1, .inr (2, cT11 X))]) (qI G (fun (r : Int32) (_ : Unit) => r = r_X0_canBePolled X) (fun _ => [(h0, .inr (0, cE X h1)), (h1, .inr (2, cT11 X))])) := by
  refine kintro (by decide) (Nat.le_of_ble_eq_true rfl) ?_
  intro p e s m args below meth c A ls kx hK hP hD hS hA hl
  have kx : kX p s m args meth c cX0_canBePolled 1 (some .boolean) RX0 := kx
  have hx := kx.1
  have hb := kx.2.1
  have hown := kx.2.2.2.2.1
  have ht := kx.2.2.2.2.2.2
  have hl : lv_has ls 1 [(0, .ref h0)] := hl
  refine lv_aload_n hx hb dX0_canBePolled_0 rfl (lv_at hl 0 rfl) ?_
  refine va_get (ci := 0) (v := .int (X 5)) (C := RX0) (T := TX0) (N := 12) hx hb ht inX0 hown hK.1 hP 0 rfl rfl 5 (by decide) (ht _ q_111) (fun _ h9 => h9) rfl dX0_canBePolled_1 ?_
  refine lv_iconst (v := 2) hx hb dX0_canBePolled_4 (by decide) ?_
  refine lv_icmp_ne (x := X 5) (y := 2) (tgt := 19) hx hb dX0_canBePolled_5 (by decide) (fun (c1 : ¬ (X 5 = 2)) => ?_) (fun (c1 : X 5 = 2) => ?_)
  · skip
    refine lv_iconst (v := 0) hx hb dX0_canBePolled_19 (by decide) ?_
    have er : r_X0_canBePolled X = 0 := by rw [r_X0_canBePolled, if_neg c1]
    exact k_zret kx hK hP hD hS (u := ()) rfl er.symm kb0 dX0_canBePolled_20
  · skip
    refine lv_aload_n hx hb dX0_canBePolled_8 rfl (lv_at hl 0 rfl) ?_
    refine va_get (ci := 0) (v := .int (X 6)) (C := RX0) (T := TX0) (N := 12) hx hb ht inX0 hown hK.1 hP 0 rfl rfl 8 (by decide) (ht _ q_119) (fun _ h9 => h9) rfl dX0_canBePolled_9 ?_
    refine lv_if_ne (x := X 6) (tgt := 19) hx hb dX0_canBePolled_12 (by decide) (fun (c2 : ¬ (X 6 = 0)) => ?_) (fun (c2 : X 6 = 0) => ?_)
    · skip
      refine lv_iconst (v := 0) hx hb dX0_canBePolled_19 (by decide) ?_
      have er : r_X0_canBePolled X = 0 := by rw [r_X0_canBePolled, if_pos c1, if_neg c2]
      exact k_zret kx hK hP hD hS (u := ()) rfl er.symm kb0 dX0_canBePolled_20
    · skip
      refine lv_iconst (v := 1) hx hb dX0_canBePolled_15 (by decide) ?_
      refine lv_goto (tgt := 20) hx hb dX0_canBePolled_16 (by decide) ?_
      have er : r_X0_canBePolled X = 1 := by rw [r_X0_canBePolled, if_pos c1, if_pos c2]
      exact k_zret kx hK hP hD hS (u := ()) rfl er.symm kb1 dX0_canBePolled_20
theorem kbr_X0_canBePolled (X : Nat → Int32) : kb (r_X0_canBePolled X) := by
  unfold r_X0_canBePolled
  repeat' split
  all_goals first | exact kb0 | exact kb1

set_option maxHeartbeats 4000000 in
set_option maxRecDepth 100000 in
theorem c_X0_startPoll (l : Launch) (G : kG) (X : Nat → Int32) (h0 : Nat) (h1 : Nat) : cG l G yX0_startPoll cX0_startPoll 1 none 0 [.ref h0] ([(h0, .inr (0, cE X h1)), (h1, .inr (2, cT11 X))]) (qV G (fun _ : Unit => True) (fun _ => [(h0, .inr (0, cE (upd (upd (upd X 6 1) 8 0) 9 0) h1)), (h1, .inr (2, cT11 (upd (upd (upd X 6 1) 8 0) 9 0)))])) := by
  refine kintro (by decide) (Nat.le_of_ble_eq_true rfl) ?_
  intro p e s m args below meth c A ls kx hK hP hD hS hA hl
  have kx : kX p s m args meth c cX0_startPoll 1 none RX0 := kx
  have hx := kx.1
  have hb := kx.2.1
  have hown := kx.2.2.2.2.1
  have ht := kx.2.2.2.2.2.2
  have hl : lv_has ls 1 [(0, .ref h0)] := hl
  refine lv_aload_n hx hb dX0_startPoll_0 rfl (lv_at hl 0 rfl) ?_
  refine lv_iconst (v := 1) hx hb dX0_startPoll_1 (by decide) ?_
  refine va_put (ci := 0) (v := .int 1) (ty := .boolean) (C := RX0) (T := TX0) (N := 12) hx hb ht inX0 tyX0 tyX0_ok nmX0 hown hK.1 hP hD hS 0 rfl rfl 8 (by decide) (ht _ q_119) (fun _ h9 => h9) rfl (by decide +kernel) (kb_n kb1) (kb_f kb1) (Nat.le_of_ble_eq_true rfl) dX0_startPoll_2 (fun H1 locs1 hP1 hD1 hS1 => ?_)
  have hP2 : va_P G.1 vwCl ([(h0, .inr (0, cE (upd X 6 1) h1)), (h1, .inr (2, cT11 (upd X 6 1)))]) H1 := hP1
  have hD3 : va_D A ([(h0, .inr (0, cE (upd X 6 1) h1)), (h1, .inr (2, cT11 (upd X 6 1)))]) := hD1
  refine lv_aload_n hx hb dX0_startPoll_5 rfl (lv_at hl 0 rfl) ?_
  refine lv_iconst (v := 0) hx hb dX0_startPoll_6 (by decide) ?_
  refine va_put (ci := 0) (v := .int 0) (ty := .int) (C := RX0) (T := TX0) (N := 12) hx hb ht inX0 tyX0 tyX0_ok nmX0 hown hK.1 hP2 hD3 hS1 0 rfl rfl 6 (by decide) (ht _ q_116) (fun _ h9 => h9) rfl (by decide +kernel) rfl rfl (Nat.le_of_ble_eq_true rfl) dX0_startPoll_7 (fun H4 locs4 hP4 hD4 hS4 => ?_)
  have hP5 : va_P G.1 vwCl ([(h0, .inr (0, cE (upd (upd X 6 1) 8 0) h1)), (h1, .inr (2, cT11 (upd (upd X 6 1) 8 0)))]) H4 := hP4
  have hD6 : va_D A ([(h0, .inr (0, cE (upd (upd X 6 1) 8 0) h1)), (h1, .inr (2, cT11 (upd (upd X 6 1) 8 0)))]) := hD4
  refine lv_aload_n hx hb dX0_startPoll_10 rfl (lv_at hl 0 rfl) ?_
  refine lv_iconst (v := 0) hx hb dX0_startPoll_11 (by decide) ?_
  refine va_put (ci := 0) (v := .int 0) (ty := .int) (C := RX0) (T := TX0) (N := 12) hx hb ht inX0 tyX0 tyX0_ok nmX0 hown hK.1 hP5 hD6 hS4 0 rfl rfl 7 (by decide) (ht _ q_117) (fun _ h9 => h9) rfl (by decide +kernel) rfl rfl (Nat.le_of_ble_eq_true rfl) dX0_startPoll_12 (fun H7 locs7 hP7 hD7 hS7 => ?_)
  have hP8 : va_P G.1 vwCl ([(h0, .inr (0, cE (upd (upd (upd X 6 1) 8 0) 9 0) h1)), (h1, .inr (2, cT11 (upd (upd (upd X 6 1) 8 0) 9 0)))]) H7 := hP7
  have hD9 : va_D A ([(h0, .inr (0, cE (upd (upd (upd X 6 1) 8 0) 9 0) h1)), (h1, .inr (2, cT11 (upd (upd (upd X 6 1) 8 0) 9 0)))]) := hD7
  exact k_vret kx hK hP8 hD9 hS7 (u := ()) rfl trivial dX0_startPoll_15

def s_X0_leaveOnly_X (X : Nat → Int32) (p0 : Int32) (p1 : Int32) : Nat → Int32 := if p0 = 0 then (if p1 = 0 then (upd (upd (upd (upd X 0 1) 3 1) 1 1) 4 1) else upd (upd X 0 1) 3 1) else if p1 = 0 then (upd (upd X 1 1) 4 1) else X
set_option maxHeartbeats 4000000 in
set_option maxRecDepth 100000 in
theorem c_X0_leaveOnly (l : Launch) (G : kG) (X : Nat → Int32) (h0 : Nat) (h1 : Nat) (p0 : Int32) (p1 : Int32) : cG l G yX0_leaveOnly cX0_leaveOnly 3 none 0 [.ref h0, .int p0, .int p1] ([(h0, .inr (0, cE X h1)), (h1, .inr (2, cT11 X))]) (qV G (fun u : (Nat → Int32) => u = s_X0_leaveOnly_X X p0 p1) (fun u => [(h0, .inr (0, cE u h1)), (h1, .inr (2, cT11 u))])) := by
  refine kintro (by decide) (Nat.le_of_ble_eq_true rfl) ?_
  intro p e s m args below meth c A ls kx hK hP hD hS hA hl
  have kx : kX p s m args meth c cX0_leaveOnly 3 none RX0 := kx
  have hx := kx.1
  have hb := kx.2.1
  have hown := kx.2.2.2.2.1
  have ht := kx.2.2.2.2.2.2
  have hl : lv_has ls 3 [(0, .ref h0), (1, .int p0), (2, .int p1)] := hl
  refine lv_iload_n hx hb dX0_leaveOnly_0 rfl (lv_at hl 1 rfl) ?_
  refine lv_if_ne (x := p0) (tgt := 14) hx hb dX0_leaveOnly_1 (by decide) (fun (c1 : ¬ (p0 = 0)) => ?_) (fun (c1 : p0 = 0) => ?_)
  · skip
    refine lv_iload_n hx hb dX0_leaveOnly_14 rfl (lv_at hl 2 rfl) ?_
    refine lv_if_ne (x := p1) (tgt := 28) hx hb dX0_leaveOnly_15 (by decide) (fun (c2 : ¬ (p1 = 0)) => ?_) (fun (c2 : p1 = 0) => ?_)
    · skip
      have e0 : s_X0_leaveOnly_X X p0 p1 = X := by rw [s_X0_leaveOnly_X, if_neg c1, if_neg c2]
      exact k_vret kx hK hP hD hS (u := X) rfl e0.symm dX0_leaveOnly_28
    · skip
      refine lv_aload_n hx hb dX0_leaveOnly_18 rfl (lv_at hl 0 rfl) ?_
      refine lv_iconst (v := 1) hx hb dX0_leaveOnly_19 (by decide) ?_
      refine va_put (ci := 0) (v := .int 1) (ty := .int) (C := RX0) (T := TX0) (N := 12) hx hb ht inX0 tyX0 tyX0_ok nmX0 hown hK.1 hP hD hS 0 rfl rfl 1 (by decide) (ht _ q_103) (fun _ h9 => h9) rfl (by decide +kernel) rfl rfl (Nat.le_of_ble_eq_true rfl) dX0_leaveOnly_20 (fun H1 locs1 hP1 hD1 hS1 => ?_)
      have hP2 : va_P G.1 vwCl ([(h0, .inr (0, cE (upd X 1 1) h1)), (h1, .inr (2, cT11 (upd X 1 1)))]) H1 := hP1
      have hD3 : va_D A ([(h0, .inr (0, cE (upd X 1 1) h1)), (h1, .inr (2, cT11 (upd X 1 1)))]) := hD1
      refine lv_aload_n hx hb dX0_leaveOnly_23 rfl (lv_at hl 0 rfl) ?_
      refine lv_iconst (v := 1) hx hb dX0_leaveOnly_24 (by decide) ?_
      refine va_put (ci := 0) (v := .int 1) (ty := .int) (C := RX0) (T := TX0) (N := 12) hx hb ht inX0 tyX0 tyX0_ok nmX0 hown hK.1 hP2 hD3 hS1 0 rfl rfl 4 (by decide) (ht _ q_109) (fun _ h9 => h9) rfl (by decide +kernel) rfl rfl (Nat.le_of_ble_eq_true rfl) dX0_leaveOnly_25 (fun H4 locs4 hP4 hD4 hS4 => ?_)
      have hP5 : va_P G.1 vwCl ([(h0, .inr (0, cE (upd (upd X 1 1) 4 1) h1)), (h1, .inr (2, cT11 (upd (upd X 1 1) 4 1)))]) H4 := hP4
      have hD6 : va_D A ([(h0, .inr (0, cE (upd (upd X 1 1) 4 1) h1)), (h1, .inr (2, cT11 (upd (upd X 1 1) 4 1)))]) := hD4
      have e0 : s_X0_leaveOnly_X X p0 p1 = upd (upd X 1 1) 4 1 := by rw [s_X0_leaveOnly_X, if_neg c1, if_pos c2]
      exact k_vret kx hK hP5 hD6 hS4 (u := upd (upd X 1 1) 4 1) rfl e0.symm dX0_leaveOnly_28
  · skip
    refine lv_aload_n hx hb dX0_leaveOnly_4 rfl (lv_at hl 0 rfl) ?_
    refine lv_iconst (v := 1) hx hb dX0_leaveOnly_5 (by decide) ?_
    refine va_put (ci := 0) (v := .int 1) (ty := .int) (C := RX0) (T := TX0) (N := 12) hx hb ht inX0 tyX0 tyX0_ok nmX0 hown hK.1 hP hD hS 0 rfl rfl 0 (by decide) (ht _ q_101) (fun _ h9 => h9) rfl (by decide +kernel) rfl rfl (Nat.le_of_ble_eq_true rfl) dX0_leaveOnly_6 (fun H7 locs7 hP7 hD7 hS7 => ?_)
    have hP8 : va_P G.1 vwCl ([(h0, .inr (0, cE (upd X 0 1) h1)), (h1, .inr (2, cT11 (upd X 0 1)))]) H7 := hP7
    have hD9 : va_D A ([(h0, .inr (0, cE (upd X 0 1) h1)), (h1, .inr (2, cT11 (upd X 0 1)))]) := hD7
    refine lv_aload_n hx hb dX0_leaveOnly_9 rfl (lv_at hl 0 rfl) ?_
    refine lv_iconst (v := 1) hx hb dX0_leaveOnly_10 (by decide) ?_
    refine va_put (ci := 0) (v := .int 1) (ty := .int) (C := RX0) (T := TX0) (N := 12) hx hb ht inX0 tyX0 tyX0_ok nmX0 hown hK.1 hP8 hD9 hS7 0 rfl rfl 3 (by decide) (ht _ q_108) (fun _ h9 => h9) rfl (by decide +kernel) rfl rfl (Nat.le_of_ble_eq_true rfl) dX0_leaveOnly_11 (fun H10 locs10 hP10 hD10 hS10 => ?_)
    have hP11 : va_P G.1 vwCl ([(h0, .inr (0, cE (upd (upd X 0 1) 3 1) h1)), (h1, .inr (2, cT11 (upd (upd X 0 1) 3 1)))]) H10 := hP10
    have hD12 : va_D A ([(h0, .inr (0, cE (upd (upd X 0 1) 3 1) h1)), (h1, .inr (2, cT11 (upd (upd X 0 1) 3 1)))]) := hD10
    refine lv_iload_n hx hb dX0_leaveOnly_14 rfl (lv_at hl 2 rfl) ?_
    refine lv_if_ne (x := p1) (tgt := 28) hx hb dX0_leaveOnly_15 (by decide) (fun (c3 : ¬ (p1 = 0)) => ?_) (fun (c3 : p1 = 0) => ?_)
    · skip
      have e0 : s_X0_leaveOnly_X X p0 p1 = upd (upd X 0 1) 3 1 := by rw [s_X0_leaveOnly_X, if_pos c1, if_neg c3]
      exact k_vret kx hK hP11 hD12 hS10 (u := upd (upd X 0 1) 3 1) rfl e0.symm dX0_leaveOnly_28
    · skip
      refine lv_aload_n hx hb dX0_leaveOnly_18 rfl (lv_at hl 0 rfl) ?_
      refine lv_iconst (v := 1) hx hb dX0_leaveOnly_19 (by decide) ?_
      refine va_put (ci := 0) (v := .int 1) (ty := .int) (C := RX0) (T := TX0) (N := 12) hx hb ht inX0 tyX0 tyX0_ok nmX0 hown hK.1 hP11 hD12 hS10 0 rfl rfl 1 (by decide) (ht _ q_103) (fun _ h9 => h9) rfl (by decide +kernel) rfl rfl (Nat.le_of_ble_eq_true rfl) dX0_leaveOnly_20 (fun H13 locs13 hP13 hD13 hS13 => ?_)
      have hP14 : va_P G.1 vwCl ([(h0, .inr (0, cE (upd (upd (upd X 0 1) 3 1) 1 1) h1)), (h1, .inr (2, cT11 (upd (upd (upd X 0 1) 3 1) 1 1)))]) H13 := hP13
      have hD15 : va_D A ([(h0, .inr (0, cE (upd (upd (upd X 0 1) 3 1) 1 1) h1)), (h1, .inr (2, cT11 (upd (upd (upd X 0 1) 3 1) 1 1)))]) := hD13
      refine lv_aload_n hx hb dX0_leaveOnly_23 rfl (lv_at hl 0 rfl) ?_
      refine lv_iconst (v := 1) hx hb dX0_leaveOnly_24 (by decide) ?_
      refine va_put (ci := 0) (v := .int 1) (ty := .int) (C := RX0) (T := TX0) (N := 12) hx hb ht inX0 tyX0 tyX0_ok nmX0 hown hK.1 hP14 hD15 hS13 0 rfl rfl 4 (by decide) (ht _ q_109) (fun _ h9 => h9) rfl (by decide +kernel) rfl rfl (Nat.le_of_ble_eq_true rfl) dX0_leaveOnly_25 (fun H16 locs16 hP16 hD16 hS16 => ?_)
      have hP17 : va_P G.1 vwCl ([(h0, .inr (0, cE (upd (upd (upd (upd X 0 1) 3 1) 1 1) 4 1) h1)), (h1, .inr (2, cT11 (upd (upd (upd (upd X 0 1) 3 1) 1 1) 4 1)))]) H16 := hP16
      have hD18 : va_D A ([(h0, .inr (0, cE (upd (upd (upd (upd X 0 1) 3 1) 1 1) 4 1) h1)), (h1, .inr (2, cT11 (upd (upd (upd (upd X 0 1) 3 1) 1 1) 4 1)))]) := hD16
      have e0 : s_X0_leaveOnly_X X p0 p1 = upd (upd (upd (upd X 0 1) 3 1) 1 1) 4 1 := by rw [s_X0_leaveOnly_X, if_pos c1, if_pos c3]
      exact k_vret kx hK hP17 hD18 hS16 (u := upd (upd (upd (upd X 0 1) 3 1) 1 1) 4 1) rfl e0.symm dX0_leaveOnly_28
theorem b_s_X0_leaveOnly_X (X : Nat → Int32) (p0 : Int32) (p1 : Int32) (hX : bE X) : bE (s_X0_leaveOnly_X X p0 p1) := by
  unfold s_X0_leaveOnly_X
  split
  · skip
    split
    · skip
      exact ⟨hX.1, hX.2.1, hX.2.2.1, hX.2.2.2⟩
    · skip
      exact ⟨hX.1, hX.2.1, hX.2.2.1, hX.2.2.2⟩
  · skip
    split
    · skip
      exact ⟨hX.1, hX.2.1, hX.2.2.1, hX.2.2.2⟩
    · skip
      exact hX
