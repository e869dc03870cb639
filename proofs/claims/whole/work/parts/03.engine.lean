
/-! the abstract machine: ints as Int (in range), longs as BitVec 64, references as numbers of cells -/
abbrev aV : Type := Int ⊕ (BitVec 64 ⊕ Nat)
abbrev aS : Type := (Nat → Nat → Int) × (Nat → Nat → BitVec 64)
abbrev aL : Type := List (Option aV)
abbrev aQ : Type := Option aV → aS → Prop
abbrev aC : Type := Nat → List aV → aS → aQ → Prop
abbrev aP : Type := Nat → aL → List aV → aS → Prop
abbrev vi (x : Int) : aV := Sum.inl x
abbrev vl (x : BitVec 64) : aV := Sum.inr (Sum.inl x)
abbrev vr (x : Nat) : aV := Sum.inr (Sum.inr x)
def in32 (x : Int) : Prop := -2147483648 ≤ x ∧ x < 2147483648
def w32 (x : Int) : Int := (x + 2147483648) % 4294967296 - 2147483648
theorem w32_id {x : Int} (h1 : -2147483648 ≤ x) (h2 : x < 2147483648) : w32 x = x := by unfold w32; omega
theorem w32_in (x : Int) : in32 (w32 x) := by unfold w32 in32; omega
/-- the cells of the two objects: kinds of fields 0 int, 1 long, 2 boolean, r + 3 the cell r; arrays 0 of int, 1 of long, 2 of boolean, 3 the SHEETS -/
def cd (c : Nat) : (Nat × List Nat) ⊕ (Nat × Nat) := match c with
  | 0 => .inl (3, [4, 0, 0, 0, 5, 6, 0, 0, 0, 7, 0, 16, 19])
  | 1 => .inr (0, 39)
  | 2 => .inr (0, 8)
  | 3 => .inr (0, 8)
  | 4 => .inr (3, 4)
  | 5 => .inl (1, [2, 0, 0, 12])
  | 6 => .inl (1, [2, 0, 0, 13])
  | 7 => .inl (1, [2, 0, 0, 14])
  | 8 => .inl (1, [2, 0, 0, 15])
  | 9 => .inr (0, 48)
  | 10 => .inr (0, 48)
  | 11 => .inr (0, 48)
  | 12 => .inr (0, 48)
  | 13 => .inl (0, [0, 0, 0, 0, 1, 1, 1, 1, 1, 1, 1, 1, 17, 18])
  | 14 => .inr (1, 4)
  | 15 => .inr (1, 4)
  | 16 => .inl (2, [16, 20, 1, 0])
  | 17 => .inr (0, 1225)
  | 18 => .inl (4, [22, 0, 0, 0, 0, 23, 0, 0, 0, 24, 25, 26, 27, 28, 29, 0, 30, 31, 32, 33, 34, 35, 36, 0])
  | 19 => .inr (0, 39)
  | 20 => .inr (0, 36)
  | 21 => .inr (0, 8)
  | 22 => .inr (0, 8)
  | 23 => .inr (0, 36)
  | 24 => .inr (2, 36)
  | 25 => .inr (2, 36)
  | 26 => .inr (0, 2)
  | 27 => .inr (0, 8)
  | 28 => .inr (0, 8)
  | 29 => .inr (2, 4)
  | 30 => .inr (0, 4)
  | 31 => .inr (0, 4)
  | 32 => .inr (0, 192)
  | 33 => .inr (0, 48)
  | _ => .inr (9, 0)
def sI (σ : aS) (c k : Nat) (x : Int) : aS := (fun c' k' => if c' = c ∧ k' = k then x else σ.1 c' k', σ.2)
def sJ (σ : aS) (c k : Nat) (x : BitVec 64) : aS := (σ.1, fun c' k' => if c' = c ∧ k' = k then x else σ.2 c' k')
def sC (σ : aS) (s i t j n : Nat) : aS := (fun c' k' => if c' = t ∧ (j ≤ k' ∧ k' < j + n) then σ.1 s (i + (k' - j)) else σ.1 c' k', σ.2)
def isL (v : aV) : Bool := match v with
  | .inr (.inl _) => true
  | _ => false
def catV (v : aV) : Nat := match v with
  | .inr (.inl _) => 2
  | _ => 1
def stw (st : List aV) : Nat := (st.map catV).sum
/-- a local is overwritten: a long that lay before it is gone -/
def clrL (L : aL) (i : Nat) : aL := match i with
  | 0 => L
  | j + 1 => match L[j]? with
    | some (some (.inr (.inl _))) => L.set j none
    | _ => L
def st1 (L : aL) (i : Nat) (v : aV) : aL := (clrL L i).set i (some v)
def st2 (L : aL) (i : Nat) (v : aV) : aL := ((clrL L i).set i (some v)).set (i + 1) none
/-- the locals that a mask keeps -/
def kpL (ms : List Bool) (L : aL) : aL := match ms, L with
  | [], L => L
  | _, [] => []
  | b :: ms, v :: L => (if b then v else none) :: kpL ms L
def icmp (o : Jvm.ClassFile.Cond) (x y : Int) : Prop := match o with
  | .eq => x = y
  | .ne => x ≠ y
  | .lt => x < y
  | .ge => y ≤ x
  | .gt => y < x
  | .le => x ≤ y
def bi32 (f : BitVec 32 → BitVec 32 → BitVec 32) (x y : Int) : Int := (f (BitVec.ofInt 32 x) (BitVec.ofInt 32 y)).toInt
def lcm (x y : BitVec 64) : Int := if y.toInt < x.toInt then 1 else if x = y then 0 else -1
/-- words of the tables that every method may use -/
abbrev gw (w : Cond) : Prop := w ∈ lw_tbl ∧ goodWord w = true
def lw_good : List Cond := lw_tbl.filter goodWord
def clsR (ci : Nat) : String := match ci with | 0 => RX0 | 1 => RX1 | 2 => RX2 | 3 => RX3 | _ => RX4
def clsT (ci : Nat) : u_T := match ci with | 0 => TX0 | 1 => TX1 | 2 => TX2 | 3 => TX3 | _ => TX4
def clsY (ci : Nat) : Nat → FieldType := match ci with | 0 => tyX0 | 1 => tyX1 | 2 => tyX2 | 3 => tyX3 | _ => tyX4
def clsN (ci : Nat) : Nat := match ci with | 0 => 14 | 1 => 4 | 2 => 4 | 3 => 13 | _ => 24
def fLink (own : String) (idx ci k : Nat) : Prop := ci < 5 ∧ k < clsN ci ∧ gw (.fieldLink own idx (clsT ci k).1 (clsT ci k).2.1 (clsT ci k).2.2.1)
def kLink (own : String) (idx : Nat) (v : Int) : Prop := in32 v ∧ gw (.constant own idx (Int32.ofInt v))
def lLink (own : String) (idx : Nat) (v : BitVec 64) : Prop := gw (.constantLong own idx (Int64.ofBitVec v))

/-- the methods, by number -/
def mYs : List MethodName := [yX0_init, yX0_clear, yX0_endsRow, yX0_kindOf, yX3_bit, yX0_dig, yX0_spell, yX0_markRows, yX0_loose, yX0_soaked, yX0_markMoves, yX0_survey, yX0_isCell, yX3_has, yX0_kind, yX0_fallen, yX0_placeBehind, yX0_falls, yX0_goneTo, yX0_moveSteps, yX0_kicked, yX0_springsThatWet, yX0_keepsDry, yX0_plugsFor, yX1_init, yX1_begin, yX1_holds, yX1_store, yX2_init, yX2_renew, yX2_isSooner, yX2_goOn, yX2_measure, yX2_between, yX3_renew, yX3_init, yX3_type, yX3_wipe, yX3_undo, yX3_fault, yX3_asNumber, yX3_cell, yX3_set, yX3_isStep, yX3_thing, yX3_back, yX3_isSheet, yX3_found, yX3_read, yX3_isThing, yX3_at, yX3_rests, yX3_longest, yX3_meet, yX3_way, yX3_next, yX3_race, yX3_reach, yX3_wet, yJ13_bitCount_95d88, yX3_sizeOrItem, yX3_plug, yX3_middlesUpAt, yX3_plumb, yX3_forget, yX3_where, yJ6_bitCount_0f7a4, yX3_hang, yX3_from, yX3_joined, yX3_like, yX3_flood, yX3_kicks, yX3_isForm, yX3_sheet, yX3_lose, yX3_refusalOfItem, yX3_put, yX3_get, yX3_copy, yX3_write, yX3_count, yX3_mixed, yX3_digest, yX4_init, yX4_in, yX4_isIn, yX4_no, yX4_lowest, yX4_type, yX4_wipe, yX4_undo, yX4_kindOf, yX4_faultNow, yX4_fault, yX4_reads, yX4_isCell, yX4_isOpen, yX4_isUp, yX4_below, yX4_isHeld, yX4_cell, yX4_set, yX4_thing, yX4_back, yX4_isSheet, yX4_meets, yX4_read, yX4_isThing, yX4_fallen, yX4_atOf, yX4_at, yX4_restsOf, yX4_rests, yX4_longestNow, yX4_longest, yX4_meetOf, yX4_meet, yX4_target, yX4_cost, yX4_laysFar, yX4_wayOf, yX4_way, yX4_nextOf, yX4_next, yX4_raceOf, yX4_race, yX4_reachOf, yX4_reach, yX4_flows, yX4_wetOf, yX4_wet, yX4_plugs, yX4_mayPlug, yX4_plugBy, yX4_plugOf, yX4_plug, yX4_plumb, yX4_forget, yX4_whereNow, yX4_where, yX4_hangNow, yX4_hang, yX4_fromOf, yX4_from, yX4_joinedNow, yX4_joined, yX4_likeOf, yX4_like, yX4_springs, yX4_floodOf, yX4_flood, yX4_kicksOf, yX4_kicks, yX4_sheet, yX4_lose, yX4_lacks, yX4_keep, yX4_put, yX4_get, yX4_copy, yX4_write, yX4_sumOf, yX4_count, yX4_cellDigest, yX4_digest, yJ9_max_7cf53, yJ9_min_7cf53]
def mCs : List ByteArray := [cX0_init, cX0_clear, cX0_endsRow, cX0_kindOf, cX3_bit, cX0_dig, cX0_spell, cX0_markRows, cX0_loose, cX0_soaked, cX0_markMoves, cX0_survey, cX0_isCell, cX3_has, cX0_kind, cX0_fallen, cX0_placeBehind, cX0_falls, cX0_goneTo, cX0_moveSteps, cX0_kicked, cX0_springsThatWet, cX0_keepsDry, cX0_plugsFor, cX1_init, cX1_begin, cX1_holds, cX1_store, cX2_init, cX2_renew, cX2_isSooner, cX2_goOn, cX2_measure, cX2_between, cX3_renew, cX3_init, cX3_type, cX3_wipe, cX3_undo, cX3_fault, cX3_asNumber, cX3_cell, cX3_set, cX3_isStep, cX3_thing, cX3_back, cX3_isSheet, cX3_found, cX3_read, cX3_isThing, cX3_at, cX3_rests, cX3_longest, cX3_meet, cX3_way, cX3_next, cX3_race, cX3_reach, cX3_wet, cJ13_bitCount_95d88, cX3_sizeOrItem, cX3_plug, cX3_middlesUpAt, cX3_plumb, cX3_forget, cX3_where, cJ6_bitCount_0f7a4, cX3_hang, cX3_from, cX3_joined, cX3_like, cX3_flood, cX3_kicks, cX3_isForm, cX3_sheet, cX3_lose, cX3_refusalOfItem, cX3_put, cX3_get, cX3_copy, cX3_write, cX3_count, cX3_mixed, cX3_digest, cX4_init, cX4_in, cX4_isIn, cX4_no, cX4_lowest, cX4_type, cX4_wipe, cX4_undo, cX4_kindOf, cX4_faultNow, cX4_fault, cX4_reads, cX4_isCell, cX4_isOpen, cX4_isUp, cX4_below, cX4_isHeld, cX4_cell, cX4_set, cX4_thing, cX4_back, cX4_isSheet, cX4_meets, cX4_read, cX4_isThing, cX4_fallen, cX4_atOf, cX4_at, cX4_restsOf, cX4_rests, cX4_longestNow, cX4_longest, cX4_meetOf, cX4_meet, cX4_target, cX4_cost, cX4_laysFar, cX4_wayOf, cX4_way, cX4_nextOf, cX4_next, cX4_raceOf, cX4_race, cX4_reachOf, cX4_reach, cX4_flows, cX4_wetOf, cX4_wet, cX4_plugs, cX4_mayPlug, cX4_plugBy, cX4_plugOf, cX4_plug, cX4_plumb, cX4_forget, cX4_whereNow, cX4_where, cX4_hangNow, cX4_hang, cX4_fromOf, cX4_from, cX4_joinedNow, cX4_joined, cX4_likeOf, cX4_like, cX4_springs, cX4_floodOf, cX4_flood, cX4_kicksOf, cX4_kicks, cX4_sheet, cX4_lose, cX4_lacks, cX4_keep, cX4_put, cX4_get, cX4_copy, cX4_write, cX4_sumOf, cX4_count, cX4_cellDigest, cX4_digest, cJ9_max_7cf53, cJ9_min_7cf53]
def mLs : List Nat := [1, 1, 2, 1, 1, 2, 7, 4, 3, 16, 7, 4, 2, 3, 2, 2, 5, 5, 3, 4, 4, 4, 4, 6, 1, 4, 3, 3, 2, 2, 2, 8, 5, 3, 1, 2, 2, 2, 1, 1, 1, 3, 4, 1, 3, 1, 1, 2, 5, 2, 3, 3, 6, 5, 3, 7, 6, 4, 2, 2, 5, 5, 1, 4, 2, 1, 1, 6, 7, 3, 6, 12, 7, 1, 4, 2, 4, 6, 4, 8, 6, 2, 4, 4, 1, 3, 2, 1, 11, 2, 2, 1, 1, 6, 1, 2, 2, 2, 2, 2, 2, 3, 4, 3, 1, 1, 2, 3, 2, 5, 3, 3, 5, 3, 4, 1, 5, 3, 3, 4, 6, 3, 3, 7, 3, 4, 4, 5, 2, 9, 2, 2, 6, 3, 4, 4, 3, 3, 2, 5, 1, 9, 1, 8, 4, 3, 1, 4, 2, 3, 11, 4, 9, 4, 5, 2, 4, 4, 6, 5, 7, 4, 4, 2, 7, 4, 2, 2]
def mRs : List (Option FieldType) := [none, none, (some .boolean), (some .int), (some .long), none, (some .int), none, (some .long), (some .long), none, none, (some .boolean), (some .boolean), (some .int), (some .int), (some .int), (some .int), (some .int), (some .int), (some .int), (some .int), (some .boolean), (some .long), none, none, (some .boolean), none, none, none, (some .boolean), (some .boolean), none, (some .int), none, none, (some .int), (some .int), (some .int), (some .int), (some .int), (some .int), (some .int), (some .boolean), (some .int), (some .int), (some .boolean), (some .int), (some .int), (some .boolean), (some .int), (some .int), (some .int), (some .int), (some .int), (some .int), (some .int), (some .int), (some .int), (some .int), (some .int), (some .int), (some .int), (some .int), (some .int), (some .int), (some .int), (some .int), (some .int), (some .int), (some .int), (some .long), (some .int), (some .boolean), (some .int), (some .int), (some .int), (some .int), (some .int), (some .int), (some .int), (some .int), (some .long), (some .long), none, (some .boolean), (some .boolean), (some .long), (some .long), (some .int), (some .int), (some .int), (some .int), (some .int), (some .int), none, (some .boolean), (some .boolean), (some .boolean), (some .int), (some .boolean), (some .int), (some .int), (some .int), (some .int), (some .boolean), (some .int), (some .int), (some .boolean), (some .int), (some .int), (some .int), (some .int), (some .int), (some .int), (some .int), (some .int), (some .int), (some .int), (some .int), none, (some .int), (some .int), (some .int), (some .int), (some .int), (some .int), (some .int), (some .int), none, (some .int), (some .int), (some .boolean), (some .boolean), (some .int), (some .int), (some .int), (some .int), (some .int), (some .int), (some .int), (some .int), (some .int), (some .int), (some .int), (some .int), (some .int), (some .int), (some .int), (some .int), (some .long), (some .long), (some .int), (some .int), (some .int), (some .int), (some .int), none, (some .int), (some .int), (some .int), (some .int), (some .int), (some .int), (some .long), (some .long), (some .int), (some .int)]
def mY (m : Nat) : MethodName := mYs.getD m yX3_has
def mC (m : Nat) : ByteArray := mCs.getD m cX3_has
def mL (m : Nat) : Nat := mLs.getD m 3
def mR (m : Nat) : Option FieldType := mRs.getD m none
abbrev mX0_init : Nat := 0
abbrev mX0_clear : Nat := 1
abbrev mX0_endsRow : Nat := 2
abbrev mX0_kindOf : Nat := 3
abbrev mX3_bit : Nat := 4
abbrev mX0_dig : Nat := 5
abbrev mX0_spell : Nat := 6
abbrev mX0_markRows : Nat := 7
abbrev mX0_loose : Nat := 8
abbrev mX0_soaked : Nat := 9
abbrev mX0_markMoves : Nat := 10
abbrev mX0_survey : Nat := 11
abbrev mX0_isCell : Nat := 12
abbrev mX3_has : Nat := 13
abbrev mX0_kind : Nat := 14
abbrev mX0_fallen : Nat := 15
abbrev mX0_placeBehind : Nat := 16
abbrev mX0_falls : Nat := 17
abbrev mX0_goneTo : Nat := 18
abbrev mX0_moveSteps : Nat := 19
abbrev mX0_kicked : Nat := 20
abbrev mX0_springsThatWet : Nat := 21
abbrev mX0_keepsDry : Nat := 22
abbrev mX0_plugsFor : Nat := 23
abbrev mX1_init : Nat := 24
abbrev mX1_begin : Nat := 25
abbrev mX1_holds : Nat := 26
abbrev mX1_store : Nat := 27
abbrev mX2_init : Nat := 28
abbrev mX2_renew : Nat := 29
abbrev mX2_isSooner : Nat := 30
abbrev mX2_goOn : Nat := 31
abbrev mX2_measure : Nat := 32
abbrev mX2_between : Nat := 33
abbrev mX3_renew : Nat := 34
abbrev mX3_init : Nat := 35
abbrev mX3_type : Nat := 36
abbrev mX3_wipe : Nat := 37
abbrev mX3_undo : Nat := 38
abbrev mX3_fault : Nat := 39
abbrev mX3_asNumber : Nat := 40
abbrev mX3_cell : Nat := 41
abbrev mX3_set : Nat := 42
abbrev mX3_isStep : Nat := 43
abbrev mX3_thing : Nat := 44
abbrev mX3_back : Nat := 45
abbrev mX3_isSheet : Nat := 46
abbrev mX3_found : Nat := 47
abbrev mX3_read : Nat := 48
abbrev mX3_isThing : Nat := 49
abbrev mX3_at : Nat := 50
abbrev mX3_rests : Nat := 51
abbrev mX3_longest : Nat := 52
abbrev mX3_meet : Nat := 53
abbrev mX3_way : Nat := 54
abbrev mX3_next : Nat := 55
abbrev mX3_race : Nat := 56
abbrev mX3_reach : Nat := 57
abbrev mX3_wet : Nat := 58
abbrev mJ13_bitCount_95d88 : Nat := 59
abbrev mX3_sizeOrItem : Nat := 60
abbrev mX3_plug : Nat := 61
abbrev mX3_middlesUpAt : Nat := 62
abbrev mX3_plumb : Nat := 63
abbrev mX3_forget : Nat := 64
abbrev mX3_where : Nat := 65
abbrev mJ6_bitCount_0f7a4 : Nat := 66
abbrev mX3_hang : Nat := 67
abbrev mX3_from : Nat := 68
abbrev mX3_joined : Nat := 69
abbrev mX3_like : Nat := 70
abbrev mX3_flood : Nat := 71
abbrev mX3_kicks : Nat := 72
abbrev mX3_isForm : Nat := 73
abbrev mX3_sheet : Nat := 74
abbrev mX3_lose : Nat := 75
abbrev mX3_refusalOfItem : Nat := 76
abbrev mX3_put : Nat := 77
abbrev mX3_get : Nat := 78
abbrev mX3_copy : Nat := 79
abbrev mX3_write : Nat := 80
abbrev mX3_count : Nat := 81
abbrev mX3_mixed : Nat := 82
abbrev mX3_digest : Nat := 83
abbrev mX4_init : Nat := 84
abbrev mX4_in : Nat := 85
abbrev mX4_isIn : Nat := 86
abbrev mX4_no : Nat := 87
abbrev mX4_lowest : Nat := 88
abbrev mX4_type : Nat := 89
abbrev mX4_wipe : Nat := 90
abbrev mX4_undo : Nat := 91
abbrev mX4_kindOf : Nat := 92
abbrev mX4_faultNow : Nat := 93
abbrev mX4_fault : Nat := 94
abbrev mX4_reads : Nat := 95
abbrev mX4_isCell : Nat := 96
abbrev mX4_isOpen : Nat := 97
abbrev mX4_isUp : Nat := 98
abbrev mX4_below : Nat := 99
abbrev mX4_isHeld : Nat := 100
abbrev mX4_cell : Nat := 101
abbrev mX4_set : Nat := 102
abbrev mX4_thing : Nat := 103
abbrev mX4_back : Nat := 104
abbrev mX4_isSheet : Nat := 105
abbrev mX4_meets : Nat := 106
abbrev mX4_read : Nat := 107
abbrev mX4_isThing : Nat := 108
abbrev mX4_fallen : Nat := 109
abbrev mX4_atOf : Nat := 110
abbrev mX4_at : Nat := 111
abbrev mX4_restsOf : Nat := 112
abbrev mX4_rests : Nat := 113
abbrev mX4_longestNow : Nat := 114
abbrev mX4_longest : Nat := 115
abbrev mX4_meetOf : Nat := 116
abbrev mX4_meet : Nat := 117
abbrev mX4_target : Nat := 118
abbrev mX4_cost : Nat := 119
abbrev mX4_laysFar : Nat := 120
abbrev mX4_wayOf : Nat := 121
abbrev mX4_way : Nat := 122
abbrev mX4_nextOf : Nat := 123
abbrev mX4_next : Nat := 124
abbrev mX4_raceOf : Nat := 125
abbrev mX4_race : Nat := 126
abbrev mX4_reachOf : Nat := 127
abbrev mX4_reach : Nat := 128
abbrev mX4_flows : Nat := 129
abbrev mX4_wetOf : Nat := 130
abbrev mX4_wet : Nat := 131
abbrev mX4_plugs : Nat := 132
abbrev mX4_mayPlug : Nat := 133
abbrev mX4_plugBy : Nat := 134
abbrev mX4_plugOf : Nat := 135
abbrev mX4_plug : Nat := 136
abbrev mX4_plumb : Nat := 137
abbrev mX4_forget : Nat := 138
abbrev mX4_whereNow : Nat := 139
abbrev mX4_where : Nat := 140
abbrev mX4_hangNow : Nat := 141
abbrev mX4_hang : Nat := 142
abbrev mX4_fromOf : Nat := 143
abbrev mX4_from : Nat := 144
abbrev mX4_joinedNow : Nat := 145
abbrev mX4_joined : Nat := 146
abbrev mX4_likeOf : Nat := 147
abbrev mX4_like : Nat := 148
abbrev mX4_springs : Nat := 149
abbrev mX4_floodOf : Nat := 150
abbrev mX4_flood : Nat := 151
abbrev mX4_kicksOf : Nat := 152
abbrev mX4_kicks : Nat := 153
abbrev mX4_sheet : Nat := 154
abbrev mX4_lose : Nat := 155
abbrev mX4_lacks : Nat := 156
abbrev mX4_keep : Nat := 157
abbrev mX4_put : Nat := 158
abbrev mX4_get : Nat := 159
abbrev mX4_copy : Nat := 160
abbrev mX4_write : Nat := 161
abbrev mX4_sumOf : Nat := 162
abbrev mX4_count : Nat := 163
abbrev mX4_cellDigest : Nat := 164
abbrev mX4_digest : Nat := 165
abbrev mJ9_max_7cf53 : Nat := 166
abbrev mJ9_min_7cf53 : Nat := 167
def mOK (m n : Nat) : Prop := gw (.code (mY m) (mC m) (mL m) (mR m)) ∧ ((mY m).cls ≠ "java/lang/invoke/MethodHandle" ∧ (mY m).cls ≠ "java/lang/invoke/VarHandle" ∧ (parseMethodDescriptor (mY m).desc).map (fun d => d.parameters.length) = some n) ∧ mL m ≤ 16
def nestW : List Cond := [.methodLinkNest RX0 80 yX3_bit RX3, .methodLinkNest RX0 95 yX3_has RX3, .methodLinkNest RX2 33 yX3_has RX3, .methodLinkNest RX2 47 yX3_bit RX3]
def vLink (own : String) (i m ci n : Nat) : Prop := gw (.methodLink own i (mY m)) ∧ gw (.instanceMethod (mY m)) ∧ gw (.selects (clsR ci) (mY m) (mY m)) ∧ gw (.initialized (clsR ci)) ∧ (mY m).cls = clsR ci ∧ ci < 5 ∧ mOK m n
def zLink (own : String) (i m n : Nat) : Prop := (gw (.methodLink own i (mY m)) ∨ Cond.methodLinkNest own i (mY m) RX3 ∈ nestW) ∧ gw (.static (mY m)) ∧ gw (.initialized (mY m).cls) ∧ mOK m n
def yLink (own : String) (i : Nat) : Prop := gw (.methodLink own i arraycopyName) ∧ gw (.native arraycopyName) ∧ gw (.static arraycopyName) ∧ gw (.initialized "java/lang/System")
def xLink (own : String) (i : Nat) : Prop := gw (.methodLink own i Lib.Math.max.name) ∧ gw (.static Lib.Math.max.name) ∧ gw (.initialized "java/lang/Math") ∧ gw (.code Lib.Math.max.name Lib.Math.max.code 2 (some .int))
def nLink (own : String) (i : Nat) : Prop := gw (.methodLink own i Lib.Math.min.name) ∧ gw (.static Lib.Math.min.name) ∧ gw (.initialized "java/lang/Math") ∧ gw (.code Lib.Math.min.name Lib.Math.min.code 2 (some .int))

def rl_iconst (own : String) (cc : ByteArray) (NC : Nat) (C : aC) (Q : aQ) (rk : Nat) (sc : Bool) (xl : Nat) (xs : Nat → Int) (P : aP) : Prop := ∀ (pc : Nat) (L : aL) (st : List aV) (σ : aS) (n : Int), decode cc pc = .ok (.iconst n, 1) → (-128 ≤ n ∧ n < 128) → P (pc + 1) L (vi n :: st) σ → P pc L (st) σ
def rl_bipush (own : String) (cc : ByteArray) (NC : Nat) (C : aC) (Q : aQ) (rk : Nat) (sc : Bool) (xl : Nat) (xs : Nat → Int) (P : aP) : Prop := ∀ (pc : Nat) (L : aL) (st : List aV) (σ : aS) (n : Int), decode cc pc = .ok (.bipush n, 2) → (-128 ≤ n ∧ n < 128) → P (pc + 2) L (vi n :: st) σ → P pc L (st) σ
def rl_sipush (own : String) (cc : ByteArray) (NC : Nat) (C : aC) (Q : aQ) (rk : Nat) (sc : Bool) (xl : Nat) (xs : Nat → Int) (P : aP) : Prop := ∀ (pc : Nat) (L : aL) (st : List aV) (σ : aS) (n : Int), decode cc pc = .ok (.sipush n, 3) → (-32768 ≤ n ∧ n < 32768) → P (pc + 3) L (vi n :: st) σ → P pc L (st) σ
def rl_lconst (own : String) (cc : ByteArray) (NC : Nat) (C : aC) (Q : aQ) (rk : Nat) (sc : Bool) (xl : Nat) (xs : Nat → Int) (P : aP) : Prop := ∀ (pc : Nat) (L : aL) (st : List aV) (σ : aS) (n : Fin 2), decode cc pc = .ok (.lconst n, 1) → P (pc + 1) L (vl (BitVec.ofNat 64 n.val) :: st) σ → P pc L (st) σ
def rl_ldc (own : String) (cc : ByteArray) (NC : Nat) (C : aC) (Q : aQ) (rk : Nat) (sc : Bool) (xl : Nat) (xs : Nat → Int) (P : aP) : Prop := ∀ (pc : Nat) (L : aL) (st : List aV) (σ : aS) (i : Nat) (v : Int), decode cc pc = .ok (.ldc i, 2) → (kLink own i v) → P (pc + 2) L (vi v :: st) σ → P pc L (st) σ
def rl_ldcw (own : String) (cc : ByteArray) (NC : Nat) (C : aC) (Q : aQ) (rk : Nat) (sc : Bool) (xl : Nat) (xs : Nat → Int) (P : aP) : Prop := ∀ (pc : Nat) (L : aL) (st : List aV) (σ : aS) (i : Nat) (v : Int), decode cc pc = .ok (.ldc_w i, 3) → (kLink own i v) → P (pc + 3) L (vi v :: st) σ → P pc L (st) σ
def rl_ldc2 (own : String) (cc : ByteArray) (NC : Nat) (C : aC) (Q : aQ) (rk : Nat) (sc : Bool) (xl : Nat) (xs : Nat → Int) (P : aP) : Prop := ∀ (pc : Nat) (L : aL) (st : List aV) (σ : aS) (i : Nat) (v : BitVec 64), decode cc pc = .ok (.ldc2_w i, 3) → (lLink own i v) → P (pc + 3) L (vl v :: st) σ → P pc L (st) σ
def rl_iload_n (own : String) (cc : ByteArray) (NC : Nat) (C : aC) (Q : aQ) (rk : Nat) (sc : Bool) (xl : Nat) (xs : Nat → Int) (P : aP) : Prop := ∀ (pc : Nat) (L : aL) (st : List aV) (σ : aS) (k : Fin 4) (x : Int), decode cc pc = .ok (.iload_n k, 1) → (L[k.val]? = some (some (vi x))) → P (pc + 1) L (vi x :: st) σ → P pc L (st) σ
def rl_iload (own : String) (cc : ByteArray) (NC : Nat) (C : aC) (Q : aQ) (rk : Nat) (sc : Bool) (xl : Nat) (xs : Nat → Int) (P : aP) : Prop := ∀ (pc : Nat) (L : aL) (st : List aV) (σ : aS) (k : Nat) (x : Int), decode cc pc = .ok (.iload k, 2) → (L[k]? = some (some (vi x))) → P (pc + 2) L (vi x :: st) σ → P pc L (st) σ
def rl_istore_n (own : String) (cc : ByteArray) (NC : Nat) (C : aC) (Q : aQ) (rk : Nat) (sc : Bool) (xl : Nat) (xs : Nat → Int) (P : aP) : Prop := ∀ (pc : Nat) (L : aL) (st : List aV) (σ : aS) (k : Fin 4) (x : Int), decode cc pc = .ok (.istore_n k, 1) → (k.val < L.length) → P (pc + 1) (st1 L k.val (vi x)) st σ → P pc L (vi x :: st) σ
def rl_istore (own : String) (cc : ByteArray) (NC : Nat) (C : aC) (Q : aQ) (rk : Nat) (sc : Bool) (xl : Nat) (xs : Nat → Int) (P : aP) : Prop := ∀ (pc : Nat) (L : aL) (st : List aV) (σ : aS) (k : Nat) (x : Int), decode cc pc = .ok (.istore k, 2) → (k < L.length) → P (pc + 2) (st1 L k (vi x)) st σ → P pc L (vi x :: st) σ
def rl_lload_n (own : String) (cc : ByteArray) (NC : Nat) (C : aC) (Q : aQ) (rk : Nat) (sc : Bool) (xl : Nat) (xs : Nat → Int) (P : aP) : Prop := ∀ (pc : Nat) (L : aL) (st : List aV) (σ : aS) (k : Fin 4) (x : BitVec 64), decode cc pc = .ok (.lload_n k, 1) → (L[k.val]? = some (some (vl x))) → P (pc + 1) L (vl x :: st) σ → P pc L (st) σ
def rl_lload (own : String) (cc : ByteArray) (NC : Nat) (C : aC) (Q : aQ) (rk : Nat) (sc : Bool) (xl : Nat) (xs : Nat → Int) (P : aP) : Prop := ∀ (pc : Nat) (L : aL) (st : List aV) (σ : aS) (k : Nat) (x : BitVec 64), decode cc pc = .ok (.lload k, 2) → (L[k]? = some (some (vl x))) → P (pc + 2) L (vl x :: st) σ → P pc L (st) σ
def rl_lstore_n (own : String) (cc : ByteArray) (NC : Nat) (C : aC) (Q : aQ) (rk : Nat) (sc : Bool) (xl : Nat) (xs : Nat → Int) (P : aP) : Prop := ∀ (pc : Nat) (L : aL) (st : List aV) (σ : aS) (k : Fin 4) (x : BitVec 64), decode cc pc = .ok (.lstore_n k, 1) → (k.val + 1 < L.length) → P (pc + 1) (st2 L k.val (vl x)) st σ → P pc L (vl x :: st) σ
def rl_lstore (own : String) (cc : ByteArray) (NC : Nat) (C : aC) (Q : aQ) (rk : Nat) (sc : Bool) (xl : Nat) (xs : Nat → Int) (P : aP) : Prop := ∀ (pc : Nat) (L : aL) (st : List aV) (σ : aS) (k : Nat) (x : BitVec 64), decode cc pc = .ok (.lstore k, 2) → (k + 1 < L.length) → P (pc + 2) (st2 L k (vl x)) st σ → P pc L (vl x :: st) σ
def rl_aload_n (own : String) (cc : ByteArray) (NC : Nat) (C : aC) (Q : aQ) (rk : Nat) (sc : Bool) (xl : Nat) (xs : Nat → Int) (P : aP) : Prop := ∀ (pc : Nat) (L : aL) (st : List aV) (σ : aS) (k : Fin 4) (x : Nat), decode cc pc = .ok (.aload_n k, 1) → (L[k.val]? = some (some (vr x))) → P (pc + 1) L (vr x :: st) σ → P pc L (st) σ
def rl_aload (own : String) (cc : ByteArray) (NC : Nat) (C : aC) (Q : aQ) (rk : Nat) (sc : Bool) (xl : Nat) (xs : Nat → Int) (P : aP) : Prop := ∀ (pc : Nat) (L : aL) (st : List aV) (σ : aS) (k : Nat) (x : Nat), decode cc pc = .ok (.aload k, 2) → (L[k]? = some (some (vr x))) → P (pc + 2) L (vr x :: st) σ → P pc L (st) σ
def rl_astore_n (own : String) (cc : ByteArray) (NC : Nat) (C : aC) (Q : aQ) (rk : Nat) (sc : Bool) (xl : Nat) (xs : Nat → Int) (P : aP) : Prop := ∀ (pc : Nat) (L : aL) (st : List aV) (σ : aS) (k : Fin 4) (x : Nat), decode cc pc = .ok (.astore_n k, 1) → (k.val < L.length) → P (pc + 1) (st1 L k.val (vr x)) st σ → P pc L (vr x :: st) σ
def rl_astore (own : String) (cc : ByteArray) (NC : Nat) (C : aC) (Q : aQ) (rk : Nat) (sc : Bool) (xl : Nat) (xs : Nat → Int) (P : aP) : Prop := ∀ (pc : Nat) (L : aL) (st : List aV) (σ : aS) (k : Nat) (x : Nat), decode cc pc = .ok (.astore k, 2) → (k < L.length) → P (pc + 2) (st1 L k (vr x)) st σ → P pc L (vr x :: st) σ
def rl_iinc (own : String) (cc : ByteArray) (NC : Nat) (C : aC) (Q : aQ) (rk : Nat) (sc : Bool) (xl : Nat) (xs : Nat → Int) (P : aP) : Prop := ∀ (pc : Nat) (L : aL) (st : List aV) (σ : aS) (k : Nat) (x n : Int), decode cc pc = .ok (.iinc k n, 3) → (L[k]? = some (some (vi x))) → P (pc + 3) (st1 L k (vi (w32 (x + n)))) st σ → P pc L (st) σ
def rl_iadd (own : String) (cc : ByteArray) (NC : Nat) (C : aC) (Q : aQ) (rk : Nat) (sc : Bool) (xl : Nat) (xs : Nat → Int) (P : aP) : Prop := ∀ (pc : Nat) (L : aL) (st : List aV) (σ : aS) (x y : Int), decode cc pc = .ok (.iadd, 1) → P (pc + 1) L (vi (w32 (x + y)) :: st) σ → P pc L (vi y :: vi x :: st) σ
def rl_isub (own : String) (cc : ByteArray) (NC : Nat) (C : aC) (Q : aQ) (rk : Nat) (sc : Bool) (xl : Nat) (xs : Nat → Int) (P : aP) : Prop := ∀ (pc : Nat) (L : aL) (st : List aV) (σ : aS) (x y : Int), decode cc pc = .ok (.isub, 1) → P (pc + 1) L (vi (w32 (x - y)) :: st) σ → P pc L (vi y :: vi x :: st) σ
def rl_imul (own : String) (cc : ByteArray) (NC : Nat) (C : aC) (Q : aQ) (rk : Nat) (sc : Bool) (xl : Nat) (xs : Nat → Int) (P : aP) : Prop := ∀ (pc : Nat) (L : aL) (st : List aV) (σ : aS) (x y : Int), decode cc pc = .ok (.imul, 1) → P (pc + 1) L (vi (w32 (x * y)) :: st) σ → P pc L (vi y :: vi x :: st) σ
def rl_iand (own : String) (cc : ByteArray) (NC : Nat) (C : aC) (Q : aQ) (rk : Nat) (sc : Bool) (xl : Nat) (xs : Nat → Int) (P : aP) : Prop := ∀ (pc : Nat) (L : aL) (st : List aV) (σ : aS) (x y : Int), decode cc pc = .ok (.iand, 1) → P (pc + 1) L (vi (bi32 (· &&& ·) x y) :: st) σ → P pc L (vi y :: vi x :: st) σ
def rl_ior (own : String) (cc : ByteArray) (NC : Nat) (C : aC) (Q : aQ) (rk : Nat) (sc : Bool) (xl : Nat) (xs : Nat → Int) (P : aP) : Prop := ∀ (pc : Nat) (L : aL) (st : List aV) (σ : aS) (x y : Int), decode cc pc = .ok (.ior, 1) → P (pc + 1) L (vi (bi32 (· ||| ·) x y) :: st) σ → P pc L (vi y :: vi x :: st) σ
def rl_ixor (own : String) (cc : ByteArray) (NC : Nat) (C : aC) (Q : aQ) (rk : Nat) (sc : Bool) (xl : Nat) (xs : Nat → Int) (P : aP) : Prop := ∀ (pc : Nat) (L : aL) (st : List aV) (σ : aS) (x y : Int), decode cc pc = .ok (.ixor, 1) → P (pc + 1) L (vi (bi32 (· ^^^ ·) x y) :: st) σ → P pc L (vi y :: vi x :: st) σ
def rl_ineg (own : String) (cc : ByteArray) (NC : Nat) (C : aC) (Q : aQ) (rk : Nat) (sc : Bool) (xl : Nat) (xs : Nat → Int) (P : aP) : Prop := ∀ (pc : Nat) (L : aL) (st : List aV) (σ : aS) (x : Int), decode cc pc = .ok (.ineg, 1) → P (pc + 1) L (vi (w32 (-x)) :: st) σ → P pc L (vi x :: st) σ
def rl_idiv (own : String) (cc : ByteArray) (NC : Nat) (C : aC) (Q : aQ) (rk : Nat) (sc : Bool) (xl : Nat) (xs : Nat → Int) (P : aP) : Prop := ∀ (pc : Nat) (L : aL) (st : List aV) (σ : aS) (x y : Int), decode cc pc = .ok (.idiv, 1) → (0 ≤ x) → (0 < y) → P (pc + 1) L (vi (x / y) :: st) σ → P pc L (vi y :: vi x :: st) σ
def rl_irem (own : String) (cc : ByteArray) (NC : Nat) (C : aC) (Q : aQ) (rk : Nat) (sc : Bool) (xl : Nat) (xs : Nat → Int) (P : aP) : Prop := ∀ (pc : Nat) (L : aL) (st : List aV) (σ : aS) (x y : Int), decode cc pc = .ok (.irem, 1) → (0 ≤ x) → (0 < y) → P (pc + 1) L (vi (x % y) :: st) σ → P pc L (vi y :: vi x :: st) σ
def rl_ishl (own : String) (cc : ByteArray) (NC : Nat) (C : aC) (Q : aQ) (rk : Nat) (sc : Bool) (xl : Nat) (xs : Nat → Int) (P : aP) : Prop := ∀ (pc : Nat) (L : aL) (st : List aV) (σ : aS) (x y : Int), decode cc pc = .ok (.ishl, 1) → (0 ≤ y) → (y < 32) → P (pc + 1) L (vi (w32 (x * 2 ^ y.toNat)) :: st) σ → P pc L (vi y :: vi x :: st) σ
def rl_ishr (own : String) (cc : ByteArray) (NC : Nat) (C : aC) (Q : aQ) (rk : Nat) (sc : Bool) (xl : Nat) (xs : Nat → Int) (P : aP) : Prop := ∀ (pc : Nat) (L : aL) (st : List aV) (σ : aS) (x y : Int), decode cc pc = .ok (.ishr, 1) → (0 ≤ y) → (y < 64) → P (pc + 1) L (vi (x / 2 ^ (y % 32).toNat) :: st) σ → P pc L (vi y :: vi x :: st) σ
def rl_iushr (own : String) (cc : ByteArray) (NC : Nat) (C : aC) (Q : aQ) (rk : Nat) (sc : Bool) (xl : Nat) (xs : Nat → Int) (P : aP) : Prop := ∀ (pc : Nat) (L : aL) (st : List aV) (σ : aS) (x y : Int), decode cc pc = .ok (.iushr, 1) → (0 ≤ y) → (y < 32) → P (pc + 1) L (vi (w32 (x % 4294967296 / 2 ^ y.toNat)) :: st) σ → P pc L (vi y :: vi x :: st) σ
def rl_ladd (own : String) (cc : ByteArray) (NC : Nat) (C : aC) (Q : aQ) (rk : Nat) (sc : Bool) (xl : Nat) (xs : Nat → Int) (P : aP) : Prop := ∀ (pc : Nat) (L : aL) (st : List aV) (σ : aS) (x y : BitVec 64), decode cc pc = .ok (.ladd, 1) → P (pc + 1) L (vl (x + y) :: st) σ → P pc L (vl y :: vl x :: st) σ
def rl_lsub (own : String) (cc : ByteArray) (NC : Nat) (C : aC) (Q : aQ) (rk : Nat) (sc : Bool) (xl : Nat) (xs : Nat → Int) (P : aP) : Prop := ∀ (pc : Nat) (L : aL) (st : List aV) (σ : aS) (x y : BitVec 64), decode cc pc = .ok (.lsub, 1) → P (pc + 1) L (vl (x - y) :: st) σ → P pc L (vl y :: vl x :: st) σ
def rl_lmul (own : String) (cc : ByteArray) (NC : Nat) (C : aC) (Q : aQ) (rk : Nat) (sc : Bool) (xl : Nat) (xs : Nat → Int) (P : aP) : Prop := ∀ (pc : Nat) (L : aL) (st : List aV) (σ : aS) (x y : BitVec 64), decode cc pc = .ok (.lmul, 1) → P (pc + 1) L (vl (x * y) :: st) σ → P pc L (vl y :: vl x :: st) σ
def rl_land (own : String) (cc : ByteArray) (NC : Nat) (C : aC) (Q : aQ) (rk : Nat) (sc : Bool) (xl : Nat) (xs : Nat → Int) (P : aP) : Prop := ∀ (pc : Nat) (L : aL) (st : List aV) (σ : aS) (x y : BitVec 64), decode cc pc = .ok (.land, 1) → P (pc + 1) L (vl (x &&& y) :: st) σ → P pc L (vl y :: vl x :: st) σ
def rl_lor (own : String) (cc : ByteArray) (NC : Nat) (C : aC) (Q : aQ) (rk : Nat) (sc : Bool) (xl : Nat) (xs : Nat → Int) (P : aP) : Prop := ∀ (pc : Nat) (L : aL) (st : List aV) (σ : aS) (x y : BitVec 64), decode cc pc = .ok (.lor, 1) → P (pc + 1) L (vl (x ||| y) :: st) σ → P pc L (vl y :: vl x :: st) σ
def rl_lxor (own : String) (cc : ByteArray) (NC : Nat) (C : aC) (Q : aQ) (rk : Nat) (sc : Bool) (xl : Nat) (xs : Nat → Int) (P : aP) : Prop := ∀ (pc : Nat) (L : aL) (st : List aV) (σ : aS) (x y : BitVec 64), decode cc pc = .ok (.lxor, 1) → P (pc + 1) L (vl (x ^^^ y) :: st) σ → P pc L (vl y :: vl x :: st) σ
def rl_ldiv (own : String) (cc : ByteArray) (NC : Nat) (C : aC) (Q : aQ) (rk : Nat) (sc : Bool) (xl : Nat) (xs : Nat → Int) (P : aP) : Prop := ∀ (pc : Nat) (L : aL) (st : List aV) (σ : aS) (x y : BitVec 64), decode cc pc = .ok (.ldiv, 1) → (x.toNat < 2 ^ 63) → (y.toNat < 2 ^ 63) → (0 < y.toNat) → P (pc + 1) L (vl (x / y) :: st) σ → P pc L (vl y :: vl x :: st) σ
def rl_lrem (own : String) (cc : ByteArray) (NC : Nat) (C : aC) (Q : aQ) (rk : Nat) (sc : Bool) (xl : Nat) (xs : Nat → Int) (P : aP) : Prop := ∀ (pc : Nat) (L : aL) (st : List aV) (σ : aS) (x y : BitVec 64), decode cc pc = .ok (.lrem, 1) → (x.toNat < 2 ^ 63) → (y.toNat < 2 ^ 63) → (0 < y.toNat) → P (pc + 1) L (vl (x % y) :: st) σ → P pc L (vl y :: vl x :: st) σ
def rl_lshl (own : String) (cc : ByteArray) (NC : Nat) (C : aC) (Q : aQ) (rk : Nat) (sc : Bool) (xl : Nat) (xs : Nat → Int) (P : aP) : Prop := ∀ (pc : Nat) (L : aL) (st : List aV) (σ : aS) (x : BitVec 64) (y : Int), decode cc pc = .ok (.lshl, 1) → (0 ≤ y) → (y < 64) → P (pc + 1) L (vl (x <<< y.toNat) :: st) σ → P pc L (vi y :: vl x :: st) σ
def rl_lushr (own : String) (cc : ByteArray) (NC : Nat) (C : aC) (Q : aQ) (rk : Nat) (sc : Bool) (xl : Nat) (xs : Nat → Int) (P : aP) : Prop := ∀ (pc : Nat) (L : aL) (st : List aV) (σ : aS) (x : BitVec 64) (y : Int), decode cc pc = .ok (.lushr, 1) → (0 ≤ y) → (y < 64) → P (pc + 1) L (vl (x >>> y.toNat) :: st) σ → P pc L (vi y :: vl x :: st) σ
def rl_lshr (own : String) (cc : ByteArray) (NC : Nat) (C : aC) (Q : aQ) (rk : Nat) (sc : Bool) (xl : Nat) (xs : Nat → Int) (P : aP) : Prop := ∀ (pc : Nat) (L : aL) (st : List aV) (σ : aS) (x : BitVec 64) (y : Int), decode cc pc = .ok (.lshr, 1) → (0 ≤ y) → (y < 64) → P (pc + 1) L (vl (x.sshiftRight y.toNat) :: st) σ → P pc L (vi y :: vl x :: st) σ
def rl_lcmp (own : String) (cc : ByteArray) (NC : Nat) (C : aC) (Q : aQ) (rk : Nat) (sc : Bool) (xl : Nat) (xs : Nat → Int) (P : aP) : Prop := ∀ (pc : Nat) (L : aL) (st : List aV) (σ : aS) (x y : BitVec 64), decode cc pc = .ok (.lcmp, 1) → P (pc + 1) L (vi (lcm x y) :: st) σ → P pc L (vl y :: vl x :: st) σ
def rl_i2l (own : String) (cc : ByteArray) (NC : Nat) (C : aC) (Q : aQ) (rk : Nat) (sc : Bool) (xl : Nat) (xs : Nat → Int) (P : aP) : Prop := ∀ (pc : Nat) (L : aL) (st : List aV) (σ : aS) (x : Int), decode cc pc = .ok (.i2l, 1) → P (pc + 1) L (vl (BitVec.ofInt 64 x) :: st) σ → P pc L (vi x :: st) σ
def rl_l2i (own : String) (cc : ByteArray) (NC : Nat) (C : aC) (Q : aQ) (rk : Nat) (sc : Bool) (xl : Nat) (xs : Nat → Int) (P : aP) : Prop := ∀ (pc : Nat) (L : aL) (st : List aV) (σ : aS) (x : BitVec 64), decode cc pc = .ok (.l2i, 1) → P (pc + 1) L (vi (x.setWidth 32).toInt :: st) σ → P pc L (vl x :: st) σ
def rl_i2b (own : String) (cc : ByteArray) (NC : Nat) (C : aC) (Q : aQ) (rk : Nat) (sc : Bool) (xl : Nat) (xs : Nat → Int) (P : aP) : Prop := ∀ (pc : Nat) (L : aL) (st : List aV) (σ : aS) (x : Int), decode cc pc = .ok (.i2b, 1) → P (pc + 1) L (vi ((x + 128) % 256 - 128) :: st) σ → P pc L (vi x :: st) σ
def rl_i2s (own : String) (cc : ByteArray) (NC : Nat) (C : aC) (Q : aQ) (rk : Nat) (sc : Bool) (xl : Nat) (xs : Nat → Int) (P : aP) : Prop := ∀ (pc : Nat) (L : aL) (st : List aV) (σ : aS) (x : Int), decode cc pc = .ok (.i2s, 1) → P (pc + 1) L (vi ((x + 32768) % 65536 - 32768) :: st) σ → P pc L (vi x :: st) σ
def rl_dup (own : String) (cc : ByteArray) (NC : Nat) (C : aC) (Q : aQ) (rk : Nat) (sc : Bool) (xl : Nat) (xs : Nat → Int) (P : aP) : Prop := ∀ (pc : Nat) (L : aL) (st : List aV) (σ : aS) (v : aV), decode cc pc = .ok (.dup, 1) → (isL v = false) → P (pc + 1) L (v :: v :: st) σ → P pc L (v :: st) σ
def rl_if (own : String) (cc : ByteArray) (NC : Nat) (C : aC) (Q : aQ) (rk : Nat) (sc : Bool) (xl : Nat) (xs : Nat → Int) (P : aP) : Prop := ∀ (pc : Nat) (L : aL) (st : List aV) (σ : aS) (o : Jvm.ClassFile.Cond) (off : Int) (tgt : Nat) (x : Int), decode cc pc = .ok (.ifCond o off, 3) → ((pc : Int) + off = (tgt : Int)) → (icmp o x 0 → P tgt L st σ) → (¬ icmp o x 0 → P (pc + 3) L st σ) → P pc L (vi x :: st) σ
def rl_icmp (own : String) (cc : ByteArray) (NC : Nat) (C : aC) (Q : aQ) (rk : Nat) (sc : Bool) (xl : Nat) (xs : Nat → Int) (P : aP) : Prop := ∀ (pc : Nat) (L : aL) (st : List aV) (σ : aS) (o : Jvm.ClassFile.Cond) (off : Int) (tgt : Nat) (x y : Int), decode cc pc = .ok (.if_icmp o off, 3) → ((pc : Int) + off = (tgt : Int)) → (icmp o x y → P tgt L st σ) → (¬ icmp o x y → P (pc + 3) L st σ) → P pc L (vi y :: vi x :: st) σ
def rl_goto (own : String) (cc : ByteArray) (NC : Nat) (C : aC) (Q : aQ) (rk : Nat) (sc : Bool) (xl : Nat) (xs : Nat → Int) (P : aP) : Prop := ∀ (pc : Nat) (L : aL) (st : List aV) (σ : aS) (off : Int) (tgt : Nat), decode cc pc = .ok (.goto off, 3) → ((pc : Int) + off = (tgt : Int)) → P tgt L st σ → P pc L (st) σ
def rl_tabIn (own : String) (cc : ByteArray) (NC : Nat) (C : aC) (Q : aQ) (rk : Nat) (sc : Bool) (xl : Nat) (xs : Nat → Int) (P : aP) : Prop := ∀ (pc : Nat) (L : aL) (st : List aV) (σ : aS) (dflt lo hi off : Int) (offs : Array Int) (len tgt : Nat) (x : Int), decode cc pc = .ok (.tableswitch dflt lo hi offs, len) → (lo ≤ x) → (x ≤ hi) → (offs[(x - lo).toNat]? = some off) → ((pc : Int) + off = (tgt : Int)) → P tgt L st σ → P pc L (vi x :: st) σ
def rl_tabOut (own : String) (cc : ByteArray) (NC : Nat) (C : aC) (Q : aQ) (rk : Nat) (sc : Bool) (xl : Nat) (xs : Nat → Int) (P : aP) : Prop := ∀ (pc : Nat) (L : aL) (st : List aV) (σ : aS) (dflt lo hi : Int) (offs : Array Int) (len tgt : Nat) (x : Int), decode cc pc = .ok (.tableswitch dflt lo hi offs, len) → (x < lo ∨ hi < x) → ((pc : Int) + dflt = (tgt : Int)) → P tgt L st σ → P pc L (vi x :: st) σ
def rl_lookup (own : String) (cc : ByteArray) (NC : Nat) (C : aC) (Q : aQ) (rk : Nat) (sc : Bool) (xl : Nat) (xs : Nat → Int) (P : aP) : Prop := ∀ (pc : Nat) (L : aL) (st : List aV) (σ : aS) (dflt off : Int) (ps : Array (Int × Int)) (len tgt : Nat) (x : Int), decode cc pc = .ok (.lookupswitch dflt ps, len) → ((ps.toList.zip (ps.toList.drop 1)).all (fun (a, next) => a.1 < next.1) = true) → (Op.lookupswitch.offset ps.toList dflt x = off) → ((pc : Int) + off = (tgt : Int)) → P tgt L st σ → P pc L (vi x :: st) σ
def rl_getI (own : String) (cc : ByteArray) (NC : Nat) (C : aC) (Q : aQ) (rk : Nat) (sc : Bool) (xl : Nat) (xs : Nat → Int) (P : aP) : Prop := ∀ (pc : Nat) (L : aL) (st : List aV) (σ : aS) (i ci k c : Nat) (fk : List Nat), decode cc pc = .ok (.getfield i, 3) → (fLink own i ci k) → (c < NC) → (cd c = .inl (ci, fk)) → (fk[k]? = some 0 ∨ fk[k]? = some 2) → P (pc + 3) L (vi (σ.1 c k) :: st) σ → P pc L (vr c :: st) σ
def rl_getJ (own : String) (cc : ByteArray) (NC : Nat) (C : aC) (Q : aQ) (rk : Nat) (sc : Bool) (xl : Nat) (xs : Nat → Int) (P : aP) : Prop := ∀ (pc : Nat) (L : aL) (st : List aV) (σ : aS) (i ci k c : Nat) (fk : List Nat), decode cc pc = .ok (.getfield i, 3) → (fLink own i ci k) → (c < NC) → (cd c = .inl (ci, fk)) → (fk[k]? = some 1) → P (pc + 3) L (vl (σ.2 c k) :: st) σ → P pc L (vr c :: st) σ
def rl_getR (own : String) (cc : ByteArray) (NC : Nat) (C : aC) (Q : aQ) (rk : Nat) (sc : Bool) (xl : Nat) (xs : Nat → Int) (P : aP) : Prop := ∀ (pc : Nat) (L : aL) (st : List aV) (σ : aS) (i ci k c r : Nat) (fk : List Nat), decode cc pc = .ok (.getfield i, 3) → (fLink own i ci k) → (c < NC) → (cd c = .inl (ci, fk)) → (fk[k]? = some (r + 3)) → P (pc + 3) L (vr r :: st) σ → P pc L (vr c :: st) σ
def rl_putI (own : String) (cc : ByteArray) (NC : Nat) (C : aC) (Q : aQ) (rk : Nat) (sc : Bool) (xl : Nat) (xs : Nat → Int) (P : aP) : Prop := ∀ (pc : Nat) (L : aL) (st : List aV) (σ : aS) (i ci k c : Nat) (fk : List Nat) (x : Int), decode cc pc = .ok (.putfield i, 3) → (fLink own i ci k) → (c < NC) → (cd c = .inl (ci, fk)) → (fk[k]? = some 0) → ((clsT ci k).2.2.2 = false) → (clsY ci k = .int) → P (pc + 3) L st (sI σ c k x) → P pc L (vi x :: vr c :: st) σ
def rl_putZ (own : String) (cc : ByteArray) (NC : Nat) (C : aC) (Q : aQ) (rk : Nat) (sc : Bool) (xl : Nat) (xs : Nat → Int) (P : aP) : Prop := ∀ (pc : Nat) (L : aL) (st : List aV) (σ : aS) (i ci k c : Nat) (fk : List Nat) (x : Int), decode cc pc = .ok (.putfield i, 3) → (fLink own i ci k) → (c < NC) → (cd c = .inl (ci, fk)) → (fk[k]? = some 2) → ((clsT ci k).2.2.2 = false) → (clsY ci k = .boolean) → (x = 0 ∨ x = 1) → P (pc + 3) L st (sI σ c k x) → P pc L (vi x :: vr c :: st) σ
def rl_putJ (own : String) (cc : ByteArray) (NC : Nat) (C : aC) (Q : aQ) (rk : Nat) (sc : Bool) (xl : Nat) (xs : Nat → Int) (P : aP) : Prop := ∀ (pc : Nat) (L : aL) (st : List aV) (σ : aS) (i ci k c : Nat) (fk : List Nat) (x : BitVec 64), decode cc pc = .ok (.putfield i, 3) → (fLink own i ci k) → (c < NC) → (cd c = .inl (ci, fk)) → (fk[k]? = some 1) → ((clsT ci k).2.2.2 = false) → (clsY ci k = .long) → P (pc + 3) L st (sJ σ c k x) → P pc L (vl x :: vr c :: st) σ
def rl_iaload (own : String) (cc : ByteArray) (NC : Nat) (C : aC) (Q : aQ) (rk : Nat) (sc : Bool) (xl : Nat) (xs : Nat → Int) (P : aP) : Prop := ∀ (pc : Nat) (L : aL) (st : List aV) (σ : aS) (c n : Nat) (j : Int), decode cc pc = .ok (.iaload, 1) → (c < NC) → (cd c = .inr (0, n)) → (0 ≤ j) → (j < n) → (n < 2 ^ 31) → P (pc + 1) L (vi (σ.1 c j.toNat) :: st) σ → P pc L (vi j :: vr c :: st) σ
def rl_baload (own : String) (cc : ByteArray) (NC : Nat) (C : aC) (Q : aQ) (rk : Nat) (sc : Bool) (xl : Nat) (xs : Nat → Int) (P : aP) : Prop := ∀ (pc : Nat) (L : aL) (st : List aV) (σ : aS) (c n : Nat) (j : Int), decode cc pc = .ok (.baload, 1) → (c < NC) → (cd c = .inr (2, n)) → (0 ≤ j) → (j < n) → (n < 2 ^ 31) → P (pc + 1) L (vi (σ.1 c j.toNat) :: st) σ → P pc L (vi j :: vr c :: st) σ
def rl_laload (own : String) (cc : ByteArray) (NC : Nat) (C : aC) (Q : aQ) (rk : Nat) (sc : Bool) (xl : Nat) (xs : Nat → Int) (P : aP) : Prop := ∀ (pc : Nat) (L : aL) (st : List aV) (σ : aS) (c n : Nat) (j : Int), decode cc pc = .ok (.laload, 1) → (c < NC) → (cd c = .inr (1, n)) → (0 ≤ j) → (j < n) → (n < 2 ^ 31) → P (pc + 1) L (vl (σ.2 c j.toNat) :: st) σ → P pc L (vi j :: vr c :: st) σ
def rl_aaload (own : String) (cc : ByteArray) (NC : Nat) (C : aC) (Q : aQ) (rk : Nat) (sc : Bool) (xl : Nat) (xs : Nat → Int) (P : aP) : Prop := ∀ (pc : Nat) (L : aL) (st : List aV) (σ : aS) (c n : Nat) (j : Int), decode cc pc = .ok (.aaload, 1) → (c < NC) → (cd c = .inr (3, n)) → (0 ≤ j) → (j < n) → (n < 2 ^ 31) → P (pc + 1) L (vr (5 + j.toNat) :: st) σ → P pc L (vi j :: vr c :: st) σ
def rl_iastore (own : String) (cc : ByteArray) (NC : Nat) (C : aC) (Q : aQ) (rk : Nat) (sc : Bool) (xl : Nat) (xs : Nat → Int) (P : aP) : Prop := ∀ (pc : Nat) (L : aL) (st : List aV) (σ : aS) (c n : Nat) (j x : Int), decode cc pc = .ok (.iastore, 1) → (c < NC) → (cd c = .inr (0, n)) → (0 ≤ j) → (j < n) → (n < 2 ^ 31) → P (pc + 1) L st (sI σ c j.toNat x) → P pc L (vi x :: vi j :: vr c :: st) σ
def rl_bastore (own : String) (cc : ByteArray) (NC : Nat) (C : aC) (Q : aQ) (rk : Nat) (sc : Bool) (xl : Nat) (xs : Nat → Int) (P : aP) : Prop := ∀ (pc : Nat) (L : aL) (st : List aV) (σ : aS) (c n : Nat) (j x : Int), decode cc pc = .ok (.bastore, 1) → (c < NC) → (cd c = .inr (2, n)) → (0 ≤ j) → (j < n) → (n < 2 ^ 31) → (x = 0 ∨ x = 1) → P (pc + 1) L st (sI σ c j.toNat x) → P pc L (vi x :: vi j :: vr c :: st) σ
def rl_lastore (own : String) (cc : ByteArray) (NC : Nat) (C : aC) (Q : aQ) (rk : Nat) (sc : Bool) (xl : Nat) (xs : Nat → Int) (P : aP) : Prop := ∀ (pc : Nat) (L : aL) (st : List aV) (σ : aS) (c n : Nat) (j : Int) (x : BitVec 64), decode cc pc = .ok (.lastore, 1) → (c < NC) → (cd c = .inr (1, n)) → (0 ≤ j) → (j < n) → (n < 2 ^ 31) → P (pc + 1) L st (sJ σ c j.toNat x) → P pc L (vl x :: vi j :: vr c :: st) σ
def rl_alen (own : String) (cc : ByteArray) (NC : Nat) (C : aC) (Q : aQ) (rk : Nat) (sc : Bool) (xl : Nat) (xs : Nat → Int) (P : aP) : Prop := ∀ (pc : Nat) (L : aL) (st : List aV) (σ : aS) (c t n : Nat), decode cc pc = .ok (.arraylength, 1) → (c < NC) → (cd c = .inr (t, n)) → (t < 3) → (n < 2 ^ 31) → P (pc + 1) L (vi n :: st) σ → P pc L (vr c :: st) σ
def rl_ialoadX (own : String) (cc : ByteArray) (NC : Nat) (C : aC) (Q : aQ) (rk : Nat) (sc : Bool) (xl : Nat) (xs : Nat → Int) (P : aP) : Prop := ∀ (pc : Nat) (L : aL) (st : List aV) (σ : aS) (j : Int), decode cc pc = .ok (.iaload, 1) → (sc = true) → (0 ≤ j) → (j < xl) → (xl < 2 ^ 31) → P (pc + 1) L (vi (xs j.toNat) :: st) σ → P pc L (vi j :: vr 99 :: st) σ
def rl_alenX (own : String) (cc : ByteArray) (NC : Nat) (C : aC) (Q : aQ) (rk : Nat) (sc : Bool) (xl : Nat) (xs : Nat → Int) (P : aP) : Prop := ∀ (pc : Nat) (L : aL) (st : List aV) (σ : aS) , decode cc pc = .ok (.arraylength, 1) → (sc = true) → (xl < 2 ^ 31) → P (pc + 1) L (vi xl :: st) σ → P pc L (vr 99 :: st) σ
def rl_callV (own : String) (cc : ByteArray) (NC : Nat) (C : aC) (Q : aQ) (rk : Nat) (sc : Bool) (xl : Nat) (xs : Nat → Int) (P : aP) : Prop := ∀ (pc : Nat) (L : aL) (st : List aV) (σ : aS) (i m ci c : Nat) (fk : List Nat) (as : List aV) (K : aQ), decode cc pc = .ok (.invokevirtual i, 3) → (vLink own i m ci as.length) → (c < NC) → (cd c = .inl (ci, fk)) → (stw st ≤ 8) → (C m (vr c :: as) σ K) → (∀ r σ', K r σ' → P (pc + 3) L (r.toList ++ st) σ') → P pc L (as.reverse ++ vr c :: st) σ
def rl_callS (own : String) (cc : ByteArray) (NC : Nat) (C : aC) (Q : aQ) (rk : Nat) (sc : Bool) (xl : Nat) (xs : Nat → Int) (P : aP) : Prop := ∀ (pc : Nat) (L : aL) (st : List aV) (σ : aS) (i m : Nat) (as : List aV) (K : aQ), decode cc pc = .ok (.invokestatic i, 3) → (zLink own i m as.length) → (stw st ≤ 8) → (C m as σ K) → (∀ r σ', K r σ' → P (pc + 3) L (r.toList ++ st) σ') → P pc L (as.reverse ++ st) σ
def rl_acopy (own : String) (cc : ByteArray) (NC : Nat) (C : aC) (Q : aQ) (rk : Nat) (sc : Bool) (xl : Nat) (xs : Nat → Int) (P : aP) : Prop := ∀ (pc : Nat) (L : aL) (st : List aV) (σ : aS) (i c0 n0 c1 n1 : Nat) (sp dp n : Int), decode cc pc = .ok (.invokestatic i, 3) → (yLink own i) → (stw st ≤ 8) → (c0 < NC) → (cd c0 = .inr (0, n0)) → (c1 < NC) → (cd c1 = .inr (0, n1)) → (n0 < 2 ^ 31) → (n1 < 2 ^ 31) → (0 ≤ sp) → (0 ≤ dp) → (0 ≤ n) → (sp + n ≤ n0) → (dp + n ≤ n1) → P (pc + 3) L st (sC σ c0 sp.toNat c1 dp.toNat n.toNat) → P pc L (vi n :: vi dp :: vr c1 :: vi sp :: vr c0 :: st) σ
def rl_mmax (own : String) (cc : ByteArray) (NC : Nat) (C : aC) (Q : aQ) (rk : Nat) (sc : Bool) (xl : Nat) (xs : Nat → Int) (P : aP) : Prop := ∀ (pc : Nat) (L : aL) (st : List aV) (σ : aS) (i : Nat) (x y : Int), decode cc pc = .ok (.invokestatic i, 3) → (xLink own i) → (stw st ≤ 8) → P (pc + 3) L (vi (if x < y then y else x) :: st) σ → P pc L (vi y :: vi x :: st) σ
def rl_mmin (own : String) (cc : ByteArray) (NC : Nat) (C : aC) (Q : aQ) (rk : Nat) (sc : Bool) (xl : Nat) (xs : Nat → Int) (P : aP) : Prop := ∀ (pc : Nat) (L : aL) (st : List aV) (σ : aS) (i : Nat) (x y : Int), decode cc pc = .ok (.invokestatic i, 3) → (nLink own i) → (stw st ≤ 8) → P (pc + 3) L (vi (if y < x then y else x) :: st) σ → P pc L (vi y :: vi x :: st) σ
def rl_iret (own : String) (cc : ByteArray) (NC : Nat) (C : aC) (Q : aQ) (rk : Nat) (sc : Bool) (xl : Nat) (xs : Nat → Int) (P : aP) : Prop := ∀ (pc : Nat) (L : aL) (σ : aS) (x : Int), decode cc pc = .ok (.ireturn, 1) → (rk = 0 ∨ (rk = 1 ∧ (x = 0 ∨ x = 1))) → (Q (some (vi x)) σ) → P pc L ([vi x]) σ
def rl_lret (own : String) (cc : ByteArray) (NC : Nat) (C : aC) (Q : aQ) (rk : Nat) (sc : Bool) (xl : Nat) (xs : Nat → Int) (P : aP) : Prop := ∀ (pc : Nat) (L : aL) (σ : aS) (x : BitVec 64), decode cc pc = .ok (.lreturn, 1) → (rk = 2) → (Q (some (vl x)) σ) → P pc L ([vl x]) σ
def rl_vret (own : String) (cc : ByteArray) (NC : Nat) (C : aC) (Q : aQ) (rk : Nat) (sc : Bool) (xl : Nat) (xs : Nat → Int) (P : aP) : Prop := ∀ (pc : Nat) (L : aL) (σ : aS) , decode cc pc = .ok (.return_, 1) → (rk = 3) → (Q none σ) → P pc L ([]) σ
def rl_keep (own : String) (cc : ByteArray) (NC : Nat) (C : aC) (Q : aQ) (rk : Nat) (sc : Bool) (xl : Nat) (xs : Nat → Int) (P : aP) : Prop := ∀ (pc : Nat) (ms : List Bool) (L : aL) (st : List aV) (σ : aS), P pc (kpL ms L) st σ → P pc L st σ
def Clos (own : String) (cc : ByteArray) (NC : Nat) (C : aC) (Q : aQ) (rk : Nat) (sc : Bool) (xl : Nat) (xs : Nat → Int) (P : aP) : Prop := rl_iconst own cc NC C Q rk sc xl xs P ∧ rl_bipush own cc NC C Q rk sc xl xs P ∧ rl_sipush own cc NC C Q rk sc xl xs P ∧ rl_lconst own cc NC C Q rk sc xl xs P ∧ rl_ldc own cc NC C Q rk sc xl xs P ∧ rl_ldcw own cc NC C Q rk sc xl xs P ∧ rl_ldc2 own cc NC C Q rk sc xl xs P ∧ rl_iload_n own cc NC C Q rk sc xl xs P ∧ rl_iload own cc NC C Q rk sc xl xs P ∧ rl_istore_n own cc NC C Q rk sc xl xs P ∧ rl_istore own cc NC C Q rk sc xl xs P ∧ rl_lload_n own cc NC C Q rk sc xl xs P ∧ rl_lload own cc NC C Q rk sc xl xs P ∧ rl_lstore_n own cc NC C Q rk sc xl xs P ∧ rl_lstore own cc NC C Q rk sc xl xs P ∧ rl_aload_n own cc NC C Q rk sc xl xs P ∧ rl_aload own cc NC C Q rk sc xl xs P ∧ rl_astore_n own cc NC C Q rk sc xl xs P ∧ rl_astore own cc NC C Q rk sc xl xs P ∧ rl_iinc own cc NC C Q rk sc xl xs P ∧ rl_iadd own cc NC C Q rk sc xl xs P ∧ rl_isub own cc NC C Q rk sc xl xs P ∧ rl_imul own cc NC C Q rk sc xl xs P ∧ rl_iand own cc NC C Q rk sc xl xs P ∧ rl_ior own cc NC C Q rk sc xl xs P ∧ rl_ixor own cc NC C Q rk sc xl xs P ∧ rl_ineg own cc NC C Q rk sc xl xs P ∧ rl_idiv own cc NC C Q rk sc xl xs P ∧ rl_irem own cc NC C Q rk sc xl xs P ∧ rl_ishl own cc NC C Q rk sc xl xs P ∧ rl_ishr own cc NC C Q rk sc xl xs P ∧ rl_iushr own cc NC C Q rk sc xl xs P ∧ rl_ladd own cc NC C Q rk sc xl xs P ∧ rl_lsub own cc NC C Q rk sc xl xs P ∧ rl_lmul own cc NC C Q rk sc xl xs P ∧ rl_land own cc NC C Q rk sc xl xs P ∧ rl_lor own cc NC C Q rk sc xl xs P ∧ rl_lxor own cc NC C Q rk sc xl xs P ∧ rl_ldiv own cc NC C Q rk sc xl xs P ∧ rl_lrem own cc NC C Q rk sc xl xs P ∧ rl_lshl own cc NC C Q rk sc xl xs P ∧ rl_lushr own cc NC C Q rk sc xl xs P ∧ rl_lshr own cc NC C Q rk sc xl xs P ∧ rl_lcmp own cc NC C Q rk sc xl xs P ∧ rl_i2l own cc NC C Q rk sc xl xs P ∧ rl_l2i own cc NC C Q rk sc xl xs P ∧ rl_i2b own cc NC C Q rk sc xl xs P ∧ rl_i2s own cc NC C Q rk sc xl xs P ∧ rl_dup own cc NC C Q rk sc xl xs P ∧ rl_if own cc NC C Q rk sc xl xs P ∧ rl_icmp own cc NC C Q rk sc xl xs P ∧ rl_goto own cc NC C Q rk sc xl xs P ∧ rl_tabIn own cc NC C Q rk sc xl xs P ∧ rl_tabOut own cc NC C Q rk sc xl xs P ∧ rl_lookup own cc NC C Q rk sc xl xs P ∧ rl_getI own cc NC C Q rk sc xl xs P ∧ rl_getJ own cc NC C Q rk sc xl xs P ∧ rl_getR own cc NC C Q rk sc xl xs P ∧ rl_putI own cc NC C Q rk sc xl xs P ∧ rl_putZ own cc NC C Q rk sc xl xs P ∧ rl_putJ own cc NC C Q rk sc xl xs P ∧ rl_iaload own cc NC C Q rk sc xl xs P ∧ rl_baload own cc NC C Q rk sc xl xs P ∧ rl_laload own cc NC C Q rk sc xl xs P ∧ rl_aaload own cc NC C Q rk sc xl xs P ∧ rl_iastore own cc NC C Q rk sc xl xs P ∧ rl_bastore own cc NC C Q rk sc xl xs P ∧ rl_lastore own cc NC C Q rk sc xl xs P ∧ rl_alen own cc NC C Q rk sc xl xs P ∧ rl_ialoadX own cc NC C Q rk sc xl xs P ∧ rl_alenX own cc NC C Q rk sc xl xs P ∧ rl_callV own cc NC C Q rk sc xl xs P ∧ rl_callS own cc NC C Q rk sc xl xs P ∧ rl_acopy own cc NC C Q rk sc xl xs P ∧ rl_mmax own cc NC C Q rk sc xl xs P ∧ rl_mmin own cc NC C Q rk sc xl xs P ∧ rl_iret own cc NC C Q rk sc xl xs P ∧ rl_lret own cc NC C Q rk sc xl xs P ∧ rl_vret own cc NC C Q rk sc xl xs P ∧ rl_keep own cc NC C Q rk sc xl xs P
/-- total correctness: the least predicate that is closed under the rules -/
def Wp (own : String) (cc : ByteArray) (NC : Nat) (C : aC) (Q : aQ) (rk : Nat) (sc : Bool) (xl : Nat) (xs : Nat → Int) : aP := fun pc L st σ => ∀ P : aP, Clos own cc NC C Q rk sc xl xs P → P pc L st σ
section WPS
variable {own : String} {cc : ByteArray} {NC : Nat} {C : aC} {Q : aQ} {rk : Nat} {sc : Bool} {xl : Nat} {xs : Nat → Int}
theorem wp_iconst {pc : Nat} {L : aL} {st : List aV} {σ : aS} {n : Int} (hd : decode cc pc = .ok (.iconst n, 1)) (h0 : -128 ≤ n ∧ n < 128) (k0 : Wp own cc NC C Q rk sc xl xs (pc + 1) L (vi n :: st) σ) : Wp own cc NC C Q rk sc xl xs pc L (st) σ := fun P hP => hP.1 _ _ _ _ _ hd h0 (k0 P hP)
theorem wp_bipush {pc : Nat} {L : aL} {st : List aV} {σ : aS} {n : Int} (hd : decode cc pc = .ok (.bipush n, 2)) (h0 : -128 ≤ n ∧ n < 128) (k0 : Wp own cc NC C Q rk sc xl xs (pc + 2) L (vi n :: st) σ) : Wp own cc NC C Q rk sc xl xs pc L (st) σ := fun P hP => hP.2.1 _ _ _ _ _ hd h0 (k0 P hP)
theorem wp_sipush {pc : Nat} {L : aL} {st : List aV} {σ : aS} {n : Int} (hd : decode cc pc = .ok (.sipush n, 3)) (h0 : -32768 ≤ n ∧ n < 32768) (k0 : Wp own cc NC C Q rk sc xl xs (pc + 3) L (vi n :: st) σ) : Wp own cc NC C Q rk sc xl xs pc L (st) σ := fun P hP => hP.2.2.1 _ _ _ _ _ hd h0 (k0 P hP)
theorem wp_lconst {pc : Nat} {L : aL} {st : List aV} {σ : aS} {n : Fin 2} (hd : decode cc pc = .ok (.lconst n, 1)) (k0 : Wp own cc NC C Q rk sc xl xs (pc + 1) L (vl (BitVec.ofNat 64 n.val) :: st) σ) : Wp own cc NC C Q rk sc xl xs pc L (st) σ := fun P hP => hP.2.2.2.1 _ _ _ _ _ hd (k0 P hP)
theorem wp_ldc {pc : Nat} {L : aL} {st : List aV} {σ : aS} {i : Nat} {v : Int} (hd : decode cc pc = .ok (.ldc i, 2)) (h0 : kLink own i v) (k0 : Wp own cc NC C Q rk sc xl xs (pc + 2) L (vi v :: st) σ) : Wp own cc NC C Q rk sc xl xs pc L (st) σ := fun P hP => hP.2.2.2.2.1 _ _ _ _ _ _ hd h0 (k0 P hP)
theorem wp_ldcw {pc : Nat} {L : aL} {st : List aV} {σ : aS} {i : Nat} {v : Int} (hd : decode cc pc = .ok (.ldc_w i, 3)) (h0 : kLink own i v) (k0 : Wp own cc NC C Q rk sc xl xs (pc + 3) L (vi v :: st) σ) : Wp own cc NC C Q rk sc xl xs pc L (st) σ := fun P hP => hP.2.2.2.2.2.1 _ _ _ _ _ _ hd h0 (k0 P hP)
theorem wp_ldc2 {pc : Nat} {L : aL} {st : List aV} {σ : aS} {i : Nat} {v : BitVec 64} (hd : decode cc pc = .ok (.ldc2_w i, 3)) (h0 : lLink own i v) (k0 : Wp own cc NC C Q rk sc xl xs (pc + 3) L (vl v :: st) σ) : Wp own cc NC C Q rk sc xl xs pc L (st) σ := fun P hP => hP.2.2.2.2.2.2.1 _ _ _ _ _ _ hd h0 (k0 P hP)
theorem wp_iload_n {pc : Nat} {L : aL} {st : List aV} {σ : aS} {k : Fin 4} {x : Int} (hd : decode cc pc = .ok (.iload_n k, 1)) (h0 : L[k.val]? = some (some (vi x))) (k0 : Wp own cc NC C Q rk sc xl xs (pc + 1) L (vi x :: st) σ) : Wp own cc NC C Q rk sc xl xs pc L (st) σ := fun P hP => hP.2.2.2.2.2.2.2.1 _ _ _ _ _ _ hd h0 (k0 P hP)
theorem wp_iload {pc : Nat} {L : aL} {st : List aV} {σ : aS} {k : Nat} {x : Int} (hd : decode cc pc = .ok (.iload k, 2)) (h0 : L[k]? = some (some (vi x))) (k0 : Wp own cc NC C Q rk sc xl xs (pc + 2) L (vi x :: st) σ) : Wp own cc NC C Q rk sc xl xs pc L (st) σ := fun P hP => hP.2.2.2.2.2.2.2.2.1 _ _ _ _ _ _ hd h0 (k0 P hP)
theorem wp_istore_n {pc : Nat} {L : aL} {st : List aV} {σ : aS} {k : Fin 4} {x : Int} (hd : decode cc pc = .ok (.istore_n k, 1)) (h0 : k.val < L.length) (k0 : Wp own cc NC C Q rk sc xl xs (pc + 1) (st1 L k.val (vi x)) st σ) : Wp own cc NC C Q rk sc xl xs pc L (vi x :: st) σ := fun P hP => hP.2.2.2.2.2.2.2.2.2.1 _ _ _ _ _ _ hd h0 (k0 P hP)
theorem wp_istore {pc : Nat} {L : aL} {st : List aV} {σ : aS} {k : Nat} {x : Int} (hd : decode cc pc = .ok (.istore k, 2)) (h0 : k < L.length) (k0 : Wp own cc NC C Q rk sc xl xs (pc + 2) (st1 L k (vi x)) st σ) : Wp own cc NC C Q rk sc xl xs pc L (vi x :: st) σ := fun P hP => hP.2.2.2.2.2.2.2.2.2.2.1 _ _ _ _ _ _ hd h0 (k0 P hP)
theorem wp_lload_n {pc : Nat} {L : aL} {st : List aV} {σ : aS} {k : Fin 4} {x : BitVec 64} (hd : decode cc pc = .ok (.lload_n k, 1)) (h0 : L[k.val]? = some (some (vl x))) (k0 : Wp own cc NC C Q rk sc xl xs (pc + 1) L (vl x :: st) σ) : Wp own cc NC C Q rk sc xl xs pc L (st) σ := fun P hP => hP.2.2.2.2.2.2.2.2.2.2.2.1 _ _ _ _ _ _ hd h0 (k0 P hP)
theorem wp_lload {pc : Nat} {L : aL} {st : List aV} {σ : aS} {k : Nat} {x : BitVec 64} (hd : decode cc pc = .ok (.lload k, 2)) (h0 : L[k]? = some (some (vl x))) (k0 : Wp own cc NC C Q rk sc xl xs (pc + 2) L (vl x :: st) σ) : Wp own cc NC C Q rk sc xl xs pc L (st) σ := fun P hP => hP.2.2.2.2.2.2.2.2.2.2.2.2.1 _ _ _ _ _ _ hd h0 (k0 P hP)
theorem wp_lstore_n {pc : Nat} {L : aL} {st : List aV} {σ : aS} {k : Fin 4} {x : BitVec 64} (hd : decode cc pc = .ok (.lstore_n k, 1)) (h0 : k.val + 1 < L.length) (k0 : Wp own cc NC C Q rk sc xl xs (pc + 1) (st2 L k.val (vl x)) st σ) : Wp own cc NC C Q rk sc xl xs pc L (vl x :: st) σ := fun P hP => hP.2.2.2.2.2.2.2.2.2.2.2.2.2.1 _ _ _ _ _ _ hd h0 (k0 P hP)
theorem wp_lstore {pc : Nat} {L : aL} {st : List aV} {σ : aS} {k : Nat} {x : BitVec 64} (hd : decode cc pc = .ok (.lstore k, 2)) (h0 : k + 1 < L.length) (k0 : Wp own cc NC C Q rk sc xl xs (pc + 2) (st2 L k (vl x)) st σ) : Wp own cc NC C Q rk sc xl xs pc L (vl x :: st) σ := fun P hP => hP.2.2.2.2.2.2.2.2.2.2.2.2.2.2.1 _ _ _ _ _ _ hd h0 (k0 P hP)
theorem wp_aload_n {pc : Nat} {L : aL} {st : List aV} {σ : aS} {k : Fin 4} {x : Nat} (hd : decode cc pc = .ok (.aload_n k, 1)) (h0 : L[k.val]? = some (some (vr x))) (k0 : Wp own cc NC C Q rk sc xl xs (pc + 1) L (vr x :: st) σ) : Wp own cc NC C Q rk sc xl xs pc L (st) σ := fun P hP => hP.2.2.2.2.2.2.2.2.2.2.2.2.2.2.2.1 _ _ _ _ _ _ hd h0 (k0 P hP)
theorem wp_aload {pc : Nat} {L : aL} {st : List aV} {σ : aS} {k : Nat} {x : Nat} (hd : decode cc pc = .ok (.aload k, 2)) (h0 : L[k]? = some (some (vr x))) (k0 : Wp own cc NC C Q rk sc xl xs (pc + 2) L (vr x :: st) σ) : Wp own cc NC C Q rk sc xl xs pc L (st) σ := fun P hP => hP.2.2.2.2.2.2.2.2.2.2.2.2.2.2.2.2.1 _ _ _ _ _ _ hd h0 (k0 P hP)
theorem wp_astore_n {pc : Nat} {L : aL} {st : List aV} {σ : aS} {k : Fin 4} {x : Nat} (hd : decode cc pc = .ok (.astore_n k, 1)) (h0 : k.val < L.length) (k0 : Wp own cc NC C Q rk sc xl xs (pc + 1) (st1 L k.val (vr x)) st σ) : Wp own cc NC C Q rk sc xl xs pc L (vr x :: st) σ := fun P hP => hP.2.2.2.2.2.2.2.2.2.2.2.2.2.2.2.2.2.1 _ _ _ _ _ _ hd h0 (k0 P hP)
theorem wp_astore {pc : Nat} {L : aL} {st : List aV} {σ : aS} {k : Nat} {x : Nat} (hd : decode cc pc = .ok (.astore k, 2)) (h0 : k < L.length) (k0 : Wp own cc NC C Q rk sc xl xs (pc + 2) (st1 L k (vr x)) st σ) : Wp own cc NC C Q rk sc xl xs pc L (vr x :: st) σ := fun P hP => hP.2.2.2.2.2.2.2.2.2.2.2.2.2.2.2.2.2.2.1 _ _ _ _ _ _ hd h0 (k0 P hP)
theorem wp_iinc {pc : Nat} {L : aL} {st : List aV} {σ : aS} {k : Nat} {x n : Int} (hd : decode cc pc = .ok (.iinc k n, 3)) (h0 : L[k]? = some (some (vi x))) (k0 : Wp own cc NC C Q rk sc xl xs (pc + 3) (st1 L k (vi (w32 (x + n)))) st σ) : Wp own cc NC C Q rk sc xl xs pc L (st) σ := fun P hP => hP.2.2.2.2.2.2.2.2.2.2.2.2.2.2.2.2.2.2.2.1 _ _ _ _ _ _ _ hd h0 (k0 P hP)
theorem wp_iadd {pc : Nat} {L : aL} {st : List aV} {σ : aS} {x y : Int} (hd : decode cc pc = .ok (.iadd, 1)) (k0 : Wp own cc NC C Q rk sc xl xs (pc + 1) L (vi (w32 (x + y)) :: st) σ) : Wp own cc NC C Q rk sc xl xs pc L (vi y :: vi x :: st) σ := fun P hP => hP.2.2.2.2.2.2.2.2.2.2.2.2.2.2.2.2.2.2.2.2.1 _ _ _ _ _ _ hd (k0 P hP)
theorem wp_isub {pc : Nat} {L : aL} {st : List aV} {σ : aS} {x y : Int} (hd : decode cc pc = .ok (.isub, 1)) (k0 : Wp own cc NC C Q rk sc xl xs (pc + 1) L (vi (w32 (x - y)) :: st) σ) : Wp own cc NC C Q rk sc xl xs pc L (vi y :: vi x :: st) σ := fun P hP => hP.2.2.2.2.2.2.2.2.2.2.2.2.2.2.2.2.2.2.2.2.2.1 _ _ _ _ _ _ hd (k0 P hP)
theorem wp_imul {pc : Nat} {L : aL} {st : List aV} {σ : aS} {x y : Int} (hd : decode cc pc = .ok (.imul, 1)) (k0 : Wp own cc NC C Q rk sc xl xs (pc + 1) L (vi (w32 (x * y)) :: st) σ) : Wp own cc NC C Q rk sc xl xs pc L (vi y :: vi x :: st) σ := fun P hP => hP.2.2.2.2.2.2.2.2.2.2.2.2.2.2.2.2.2.2.2.2.2.2.1 _ _ _ _ _ _ hd (k0 P hP)
theorem wp_iand {pc : Nat} {L : aL} {st : List aV} {σ : aS} {x y : Int} (hd : decode cc pc = .ok (.iand, 1)) (k0 : Wp own cc NC C Q rk sc xl xs (pc + 1) L (vi (bi32 (· &&& ·) x y) :: st) σ) : Wp own cc NC C Q rk sc xl xs pc L (vi y :: vi x :: st) σ := fun P hP => hP.2.2.2.2.2.2.2.2.2.2.2.2.2.2.2.2.2.2.2.2.2.2.2.1 _ _ _ _ _ _ hd (k0 P hP)
theorem wp_ior {pc : Nat} {L : aL} {st : List aV} {σ : aS} {x y : Int} (hd : decode cc pc = .ok (.ior, 1)) (k0 : Wp own cc NC C Q rk sc xl xs (pc + 1) L (vi (bi32 (· ||| ·) x y) :: st) σ) : Wp own cc NC C Q rk sc xl xs pc L (vi y :: vi x :: st) σ := fun P hP => hP.2.2.2.2.2.2.2.2.2.2.2.2.2.2.2.2.2.2.2.2.2.2.2.2.1 _ _ _ _ _ _ hd (k0 P hP)
theorem wp_ixor {pc : Nat} {L : aL} {st : List aV} {σ : aS} {x y : Int} (hd : decode cc pc = .ok (.ixor, 1)) (k0 : Wp own cc NC C Q rk sc xl xs (pc + 1) L (vi (bi32 (· ^^^ ·) x y) :: st) σ) : Wp own cc NC C Q rk sc xl xs pc L (vi y :: vi x :: st) σ := fun P hP => hP.2.2.2.2.2.2.2.2.2.2.2.2.2.2.2.2.2.2.2.2.2.2.2.2.2.1 _ _ _ _ _ _ hd (k0 P hP)
theorem wp_ineg {pc : Nat} {L : aL} {st : List aV} {σ : aS} {x : Int} (hd : decode cc pc = .ok (.ineg, 1)) (k0 : Wp own cc NC C Q rk sc xl xs (pc + 1) L (vi (w32 (-x)) :: st) σ) : Wp own cc NC C Q rk sc xl xs pc L (vi x :: st) σ := fun P hP => hP.2.2.2.2.2.2.2.2.2.2.2.2.2.2.2.2.2.2.2.2.2.2.2.2.2.2.1 _ _ _ _ _ hd (k0 P hP)
theorem wp_idiv {pc : Nat} {L : aL} {st : List aV} {σ : aS} {x y : Int} (hd : decode cc pc = .ok (.idiv, 1)) (h0 : 0 ≤ x) (h1 : 0 < y) (k0 : Wp own cc NC C Q rk sc xl xs (pc + 1) L (vi (x / y) :: st) σ) : Wp own cc NC C Q rk sc xl xs pc L (vi y :: vi x :: st) σ := fun P hP => hP.2.2.2.2.2.2.2.2.2.2.2.2.2.2.2.2.2.2.2.2.2.2.2.2.2.2.2.1 _ _ _ _ _ _ hd h0 h1 (k0 P hP)
theorem wp_irem {pc : Nat} {L : aL} {st : List aV} {σ : aS} {x y : Int} (hd : decode cc pc = .ok (.irem, 1)) (h0 : 0 ≤ x) (h1 : 0 < y) (k0 : Wp own cc NC C Q rk sc xl xs (pc + 1) L (vi (x % y) :: st) σ) : Wp own cc NC C Q rk sc xl xs pc L (vi y :: vi x :: st) σ := fun P hP => hP.2.2.2.2.2.2.2.2.2.2.2.2.2.2.2.2.2.2.2.2.2.2.2.2.2.2.2.2.1 _ _ _ _ _ _ hd h0 h1 (k0 P hP)
theorem wp_ishl {pc : Nat} {L : aL} {st : List aV} {σ : aS} {x y : Int} (hd : decode cc pc = .ok (.ishl, 1)) (h0 : 0 ≤ y) (h1 : y < 32) (k0 : Wp own cc NC C Q rk sc xl xs (pc + 1) L (vi (w32 (x * 2 ^ y.toNat)) :: st) σ) : Wp own cc NC C Q rk sc xl xs pc L (vi y :: vi x :: st) σ := fun P hP => hP.2.2.2.2.2.2.2.2.2.2.2.2.2.2.2.2.2.2.2.2.2.2.2.2.2.2.2.2.2.1 _ _ _ _ _ _ hd h0 h1 (k0 P hP)
theorem wp_ishr {pc : Nat} {L : aL} {st : List aV} {σ : aS} {x y : Int} (hd : decode cc pc = .ok (.ishr, 1)) (h0 : 0 ≤ y) (h1 : y < 64) (k0 : Wp own cc NC C Q rk sc xl xs (pc + 1) L (vi (x / 2 ^ (y % 32).toNat) :: st) σ) : Wp own cc NC C Q rk sc xl xs pc L (vi y :: vi x :: st) σ := fun P hP => hP.2.2.2.2.2.2.2.2.2.2.2.2.2.2.2.2.2.2.2.2.2.2.2.2.2.2.2.2.2.2.1 _ _ _ _ _ _ hd h0 h1 (k0 P hP)
theorem wp_iushr {pc : Nat} {L : aL} {st : List aV} {σ : aS} {x y : Int} (hd : decode cc pc = .ok (.iushr, 1)) (h0 : 0 ≤ y) (h1 : y < 32) (k0 : Wp own cc NC C Q rk sc xl xs (pc + 1) L (vi (w32 (x % 4294967296 / 2 ^ y.toNat)) :: st) σ) : Wp own cc NC C Q rk sc xl xs pc L (vi y :: vi x :: st) σ := fun P hP => hP.2.2.2.2.2.2.2.2.2.2.2.2.2.2.2.2.2.2.2.2.2.2.2.2.2.2.2.2.2.2.2.1 _ _ _ _ _ _ hd h0 h1 (k0 P hP)
theorem wp_ladd {pc : Nat} {L : aL} {st : List aV} {σ : aS} {x y : BitVec 64} (hd : decode cc pc = .ok (.ladd, 1)) (k0 : Wp own cc NC C Q rk sc xl xs (pc + 1) L (vl (x + y) :: st) σ) : Wp own cc NC C Q rk sc xl xs pc L (vl y :: vl x :: st) σ := fun P hP => hP.2.2.2.2.2.2.2.2.2.2.2.2.2.2.2.2.2.2.2.2.2.2.2.2.2.2.2.2.2.2.2.2.1 _ _ _ _ _ _ hd (k0 P hP)
theorem wp_lsub {pc : Nat} {L : aL} {st : List aV} {σ : aS} {x y : BitVec 64} (hd : decode cc pc = .ok (.lsub, 1)) (k0 : Wp own cc NC C Q rk sc xl xs (pc + 1) L (vl (x - y) :: st) σ) : Wp own cc NC C Q rk sc xl xs pc L (vl y :: vl x :: st) σ := fun P hP => hP.2.2.2.2.2.2.2.2.2.2.2.2.2.2.2.2.2.2.2.2.2.2.2.2.2.2.2.2.2.2.2.2.2.1 _ _ _ _ _ _ hd (k0 P hP)
theorem wp_lmul {pc : Nat} {L : aL} {st : List aV} {σ : aS} {x y : BitVec 64} (hd : decode cc pc = .ok (.lmul, 1)) (k0 : Wp own cc NC C Q rk sc xl xs (pc + 1) L (vl (x * y) :: st) σ) : Wp own cc NC C Q rk sc xl xs pc L (vl y :: vl x :: st) σ := fun P hP => hP.2.2.2.2.2.2.2.2.2.2.2.2.2.2.2.2.2.2.2.2.2.2.2.2.2.2.2.2.2.2.2.2.2.2.1 _ _ _ _ _ _ hd (k0 P hP)
theorem wp_land {pc : Nat} {L : aL} {st : List aV} {σ : aS} {x y : BitVec 64} (hd : decode cc pc = .ok (.land, 1)) (k0 : Wp own cc NC C Q rk sc xl xs (pc + 1) L (vl (x &&& y) :: st) σ) : Wp own cc NC C Q rk sc xl xs pc L (vl y :: vl x :: st) σ := fun P hP => hP.2.2.2.2.2.2.2.2.2.2.2.2.2.2.2.2.2.2.2.2.2.2.2.2.2.2.2.2.2.2.2.2.2.2.2.1 _ _ _ _ _ _ hd (k0 P hP)
theorem wp_lor {pc : Nat} {L : aL} {st : List aV} {σ : aS} {x y : BitVec 64} (hd : decode cc pc = .ok (.lor, 1)) (k0 : Wp own cc NC C Q rk sc xl xs (pc + 1) L (vl (x ||| y) :: st) σ) : Wp own cc NC C Q rk sc xl xs pc L (vl y :: vl x :: st) σ := fun P hP => hP.2.2.2.2.2.2.2.2.2.2.2.2.2.2.2.2.2.2.2.2.2.2.2.2.2.2.2.2.2.2.2.2.2.2.2.2.1 _ _ _ _ _ _ hd (k0 P hP)
theorem wp_lxor {pc : Nat} {L : aL} {st : List aV} {σ : aS} {x y : BitVec 64} (hd : decode cc pc = .ok (.lxor, 1)) (k0 : Wp own cc NC C Q rk sc xl xs (pc + 1) L (vl (x ^^^ y) :: st) σ) : Wp own cc NC C Q rk sc xl xs pc L (vl y :: vl x :: st) σ := fun P hP => hP.2.2.2.2.2.2.2.2.2.2.2.2.2.2.2.2.2.2.2.2.2.2.2.2.2.2.2.2.2.2.2.2.2.2.2.2.2.1 _ _ _ _ _ _ hd (k0 P hP)
theorem wp_ldiv {pc : Nat} {L : aL} {st : List aV} {σ : aS} {x y : BitVec 64} (hd : decode cc pc = .ok (.ldiv, 1)) (h0 : x.toNat < 2 ^ 63) (h1 : y.toNat < 2 ^ 63) (h2 : 0 < y.toNat) (k0 : Wp own cc NC C Q rk sc xl xs (pc + 1) L (vl (x / y) :: st) σ) : Wp own cc NC C Q rk sc xl xs pc L (vl y :: vl x :: st) σ := fun P hP => hP.2.2.2.2.2.2.2.2.2.2.2.2.2.2.2.2.2.2.2.2.2.2.2.2.2.2.2.2.2.2.2.2.2.2.2.2.2.2.1 _ _ _ _ _ _ hd h0 h1 h2 (k0 P hP)
theorem wp_lrem {pc : Nat} {L : aL} {st : List aV} {σ : aS} {x y : BitVec 64} (hd : decode cc pc = .ok (.lrem, 1)) (h0 : x.toNat < 2 ^ 63) (h1 : y.toNat < 2 ^ 63) (h2 : 0 < y.toNat) (k0 : Wp own cc NC C Q rk sc xl xs (pc + 1) L (vl (x % y) :: st) σ) : Wp own cc NC C Q rk sc xl xs pc L (vl y :: vl x :: st) σ := fun P hP => hP.2.2.2.2.2.2.2.2.2.2.2.2.2.2.2.2.2.2.2.2.2.2.2.2.2.2.2.2.2.2.2.2.2.2.2.2.2.2.2.1 _ _ _ _ _ _ hd h0 h1 h2 (k0 P hP)
theorem wp_lshl {pc : Nat} {L : aL} {st : List aV} {σ : aS} {x : BitVec 64} {y : Int} (hd : decode cc pc = .ok (.lshl, 1)) (h0 : 0 ≤ y) (h1 : y < 64) (k0 : Wp own cc NC C Q rk sc xl xs (pc + 1) L (vl (x <<< y.toNat) :: st) σ) : Wp own cc NC C Q rk sc xl xs pc L (vi y :: vl x :: st) σ := fun P hP => hP.2.2.2.2.2.2.2.2.2.2.2.2.2.2.2.2.2.2.2.2.2.2.2.2.2.2.2.2.2.2.2.2.2.2.2.2.2.2.2.2.1 _ _ _ _ _ _ hd h0 h1 (k0 P hP)
theorem wp_lushr {pc : Nat} {L : aL} {st : List aV} {σ : aS} {x : BitVec 64} {y : Int} (hd : decode cc pc = .ok (.lushr, 1)) (h0 : 0 ≤ y) (h1 : y < 64) (k0 : Wp own cc NC C Q rk sc xl xs (pc + 1) L (vl (x >>> y.toNat) :: st) σ) : Wp own cc NC C Q rk sc xl xs pc L (vi y :: vl x :: st) σ := fun P hP => hP.2.2.2.2.2.2.2.2.2.2.2.2.2.2.2.2.2.2.2.2.2.2.2.2.2.2.2.2.2.2.2.2.2.2.2.2.2.2.2.2.2.1 _ _ _ _ _ _ hd h0 h1 (k0 P hP)
theorem wp_lshr {pc : Nat} {L : aL} {st : List aV} {σ : aS} {x : BitVec 64} {y : Int} (hd : decode cc pc = .ok (.lshr, 1)) (h0 : 0 ≤ y) (h1 : y < 64) (k0 : Wp own cc NC C Q rk sc xl xs (pc + 1) L (vl (x.sshiftRight y.toNat) :: st) σ) : Wp own cc NC C Q rk sc xl xs pc L (vi y :: vl x :: st) σ := fun P hP => hP.2.2.2.2.2.2.2.2.2.2.2.2.2.2.2.2.2.2.2.2.2.2.2.2.2.2.2.2.2.2.2.2.2.2.2.2.2.2.2.2.2.2.1 _ _ _ _ _ _ hd h0 h1 (k0 P hP)
theorem wp_lcmp {pc : Nat} {L : aL} {st : List aV} {σ : aS} {x y : BitVec 64} (hd : decode cc pc = .ok (.lcmp, 1)) (k0 : Wp own cc NC C Q rk sc xl xs (pc + 1) L (vi (lcm x y) :: st) σ) : Wp own cc NC C Q rk sc xl xs pc L (vl y :: vl x :: st) σ := fun P hP => hP.2.2.2.2.2.2.2.2.2.2.2.2.2.2.2.2.2.2.2.2.2.2.2.2.2.2.2.2.2.2.2.2.2.2.2.2.2.2.2.2.2.2.2.1 _ _ _ _ _ _ hd (k0 P hP)
theorem wp_i2l {pc : Nat} {L : aL} {st : List aV} {σ : aS} {x : Int} (hd : decode cc pc = .ok (.i2l, 1)) (k0 : Wp own cc NC C Q rk sc xl xs (pc + 1) L (vl (BitVec.ofInt 64 x) :: st) σ) : Wp own cc NC C Q rk sc xl xs pc L (vi x :: st) σ := fun P hP => hP.2.2.2.2.2.2.2.2.2.2.2.2.2.2.2.2.2.2.2.2.2.2.2.2.2.2.2.2.2.2.2.2.2.2.2.2.2.2.2.2.2.2.2.2.1 _ _ _ _ _ hd (k0 P hP)
theorem wp_l2i {pc : Nat} {L : aL} {st : List aV} {σ : aS} {x : BitVec 64} (hd : decode cc pc = .ok (.l2i, 1)) (k0 : Wp own cc NC C Q rk sc xl xs (pc + 1) L (vi (x.setWidth 32).toInt :: st) σ) : Wp own cc NC C Q rk sc xl xs pc L (vl x :: st) σ := fun P hP => hP.2.2.2.2.2.2.2.2.2.2.2.2.2.2.2.2.2.2.2.2.2.2.2.2.2.2.2.2.2.2.2.2.2.2.2.2.2.2.2.2.2.2.2.2.2.1 _ _ _ _ _ hd (k0 P hP)
theorem wp_i2b {pc : Nat} {L : aL} {st : List aV} {σ : aS} {x : Int} (hd : decode cc pc = .ok (.i2b, 1)) (k0 : Wp own cc NC C Q rk sc xl xs (pc + 1) L (vi ((x + 128) % 256 - 128) :: st) σ) : Wp own cc NC C Q rk sc xl xs pc L (vi x :: st) σ := fun P hP => hP.2.2.2.2.2.2.2.2.2.2.2.2.2.2.2.2.2.2.2.2.2.2.2.2.2.2.2.2.2.2.2.2.2.2.2.2.2.2.2.2.2.2.2.2.2.2.1 _ _ _ _ _ hd (k0 P hP)
theorem wp_i2s {pc : Nat} {L : aL} {st : List aV} {σ : aS} {x : Int} (hd : decode cc pc = .ok (.i2s, 1)) (k0 : Wp own cc NC C Q rk sc xl xs (pc + 1) L (vi ((x + 32768) % 65536 - 32768) :: st) σ) : Wp own cc NC C Q rk sc xl xs pc L (vi x :: st) σ := fun P hP => hP.2.2.2.2.2.2.2.2.2.2.2.2.2.2.2.2.2.2.2.2.2.2.2.2.2.2.2.2.2.2.2.2.2.2.2.2.2.2.2.2.2.2.2.2.2.2.2.1 _ _ _ _ _ hd (k0 P hP)
theorem wp_dup {pc : Nat} {L : aL} {st : List aV} {σ : aS} {v : aV} (hd : decode cc pc = .ok (.dup, 1)) (h0 : isL v = false) (k0 : Wp own cc NC C Q rk sc xl xs (pc + 1) L (v :: v :: st) σ) : Wp own cc NC C Q rk sc xl xs pc L (v :: st) σ := fun P hP => hP.2.2.2.2.2.2.2.2.2.2.2.2.2.2.2.2.2.2.2.2.2.2.2.2.2.2.2.2.2.2.2.2.2.2.2.2.2.2.2.2.2.2.2.2.2.2.2.2.1 _ _ _ _ _ hd h0 (k0 P hP)
theorem wp_if {pc : Nat} {L : aL} {st : List aV} {σ : aS} {o : Jvm.ClassFile.Cond} {off : Int} {tgt : Nat} {x : Int} (hd : decode cc pc = .ok (.ifCond o off, 3)) (h0 : (pc : Int) + off = (tgt : Int)) (k0 : icmp o x 0 → Wp own cc NC C Q rk sc xl xs tgt L st σ) (k1 : ¬ icmp o x 0 → Wp own cc NC C Q rk sc xl xs (pc + 3) L st σ) : Wp own cc NC C Q rk sc xl xs pc L (vi x :: st) σ := fun P hP => hP.2.2.2.2.2.2.2.2.2.2.2.2.2.2.2.2.2.2.2.2.2.2.2.2.2.2.2.2.2.2.2.2.2.2.2.2.2.2.2.2.2.2.2.2.2.2.2.2.2.1 _ _ _ _ _ _ _ _ hd h0 (fun q => k0 q P hP) (fun q => k1 q P hP)
theorem wp_icmp {pc : Nat} {L : aL} {st : List aV} {σ : aS} {o : Jvm.ClassFile.Cond} {off : Int} {tgt : Nat} {x y : Int} (hd : decode cc pc = .ok (.if_icmp o off, 3)) (h0 : (pc : Int) + off = (tgt : Int)) (k0 : icmp o x y → Wp own cc NC C Q rk sc xl xs tgt L st σ) (k1 : ¬ icmp o x y → Wp own cc NC C Q rk sc xl xs (pc + 3) L st σ) : Wp own cc NC C Q rk sc xl xs pc L (vi y :: vi x :: st) σ := fun P hP => hP.2.2.2.2.2.2.2.2.2.2.2.2.2.2.2.2.2.2.2.2.2.2.2.2.2.2.2.2.2.2.2.2.2.2.2.2.2.2.2.2.2.2.2.2.2.2.2.2.2.2.1 _ _ _ _ _ _ _ _ _ hd h0 (fun q => k0 q P hP) (fun q => k1 q P hP)
theorem wp_goto {pc : Nat} {L : aL} {st : List aV} {σ : aS} {off : Int} {tgt : Nat} (hd : decode cc pc = .ok (.goto off, 3)) (h0 : (pc : Int) + off = (tgt : Int)) (k0 : Wp own cc NC C Q rk sc xl xs tgt L st σ) : Wp own cc NC C Q rk sc xl xs pc L (st) σ := fun P hP => hP.2.2.2.2.2.2.2.2.2.2.2.2.2.2.2.2.2.2.2.2.2.2.2.2.2.2.2.2.2.2.2.2.2.2.2.2.2.2.2.2.2.2.2.2.2.2.2.2.2.2.2.1 _ _ _ _ _ _ hd h0 (k0 P hP)
theorem wp_tabIn {pc : Nat} {L : aL} {st : List aV} {σ : aS} {dflt lo hi off : Int} {offs : Array Int} {len tgt : Nat} {x : Int} (hd : decode cc pc = .ok (.tableswitch dflt lo hi offs, len)) (h0 : lo ≤ x) (h1 : x ≤ hi) (h2 : offs[(x - lo).toNat]? = some off) (h3 : (pc : Int) + off = (tgt : Int)) (k0 : Wp own cc NC C Q rk sc xl xs tgt L st σ) : Wp own cc NC C Q rk sc xl xs pc L (vi x :: st) σ := fun P hP => hP.2.2.2.2.2.2.2.2.2.2.2.2.2.2.2.2.2.2.2.2.2.2.2.2.2.2.2.2.2.2.2.2.2.2.2.2.2.2.2.2.2.2.2.2.2.2.2.2.2.2.2.2.1 _ _ _ _ _ _ _ _ _ _ _ _ hd h0 h1 h2 h3 (k0 P hP)
theorem wp_tabOut {pc : Nat} {L : aL} {st : List aV} {σ : aS} {dflt lo hi : Int} {offs : Array Int} {len tgt : Nat} {x : Int} (hd : decode cc pc = .ok (.tableswitch dflt lo hi offs, len)) (h0 : x < lo ∨ hi < x) (h1 : (pc : Int) + dflt = (tgt : Int)) (k0 : Wp own cc NC C Q rk sc xl xs tgt L st σ) : Wp own cc NC C Q rk sc xl xs pc L (vi x :: st) σ := fun P hP => hP.2.2.2.2.2.2.2.2.2.2.2.2.2.2.2.2.2.2.2.2.2.2.2.2.2.2.2.2.2.2.2.2.2.2.2.2.2.2.2.2.2.2.2.2.2.2.2.2.2.2.2.2.2.1 _ _ _ _ _ _ _ _ _ _ _ hd h0 h1 (k0 P hP)
theorem wp_lookup {pc : Nat} {L : aL} {st : List aV} {σ : aS} {dflt off : Int} {ps : Array (Int × Int)} {len tgt : Nat} {x : Int} (hd : decode cc pc = .ok (.lookupswitch dflt ps, len)) (h0 : (ps.toList.zip (ps.toList.drop 1)).all (fun (a, next) => a.1 < next.1) = true) (h1 : Op.lookupswitch.offset ps.toList dflt x = off) (h2 : (pc : Int) + off = (tgt : Int)) (k0 : Wp own cc NC C Q rk sc xl xs tgt L st σ) : Wp own cc NC C Q rk sc xl xs pc L (vi x :: st) σ := fun P hP => hP.2.2.2.2.2.2.2.2.2.2.2.2.2.2.2.2.2.2.2.2.2.2.2.2.2.2.2.2.2.2.2.2.2.2.2.2.2.2.2.2.2.2.2.2.2.2.2.2.2.2.2.2.2.2.1 _ _ _ _ _ _ _ _ _ _ hd h0 h1 h2 (k0 P hP)
theorem wp_getI {pc : Nat} {L : aL} {st : List aV} {σ : aS} {i ci k c : Nat} {fk : List Nat} (hd : decode cc pc = .ok (.getfield i, 3)) (h0 : fLink own i ci k) (h1 : c < NC) (h2 : cd c = .inl (ci, fk)) (h3 : fk[k]? = some 0 ∨ fk[k]? = some 2) (k0 : Wp own cc NC C Q rk sc xl xs (pc + 3) L (vi (σ.1 c k) :: st) σ) : Wp own cc NC C Q rk sc xl xs pc L (vr c :: st) σ := fun P hP => hP.2.2.2.2.2.2.2.2.2.2.2.2.2.2.2.2.2.2.2.2.2.2.2.2.2.2.2.2.2.2.2.2.2.2.2.2.2.2.2.2.2.2.2.2.2.2.2.2.2.2.2.2.2.2.2.1 _ _ _ _ _ _ _ _ _ hd h0 h1 h2 h3 (k0 P hP)
theorem wp_getJ {pc : Nat} {L : aL} {st : List aV} {σ : aS} {i ci k c : Nat} {fk : List Nat} (hd : decode cc pc = .ok (.getfield i, 3)) (h0 : fLink own i ci k) (h1 : c < NC) (h2 : cd c = .inl (ci, fk)) (h3 : fk[k]? = some 1) (k0 : Wp own cc NC C Q rk sc xl xs (pc + 3) L (vl (σ.2 c k) :: st) σ) : Wp own cc NC C Q rk sc xl xs pc L (vr c :: st) σ := fun P hP => hP.2.2.2.2.2.2.2.2.2.2.2.2.2.2.2.2.2.2.2.2.2.2.2.2.2.2.2.2.2.2.2.2.2.2.2.2.2.2.2.2.2.2.2.2.2.2.2.2.2.2.2.2.2.2.2.2.1 _ _ _ _ _ _ _ _ _ hd h0 h1 h2 h3 (k0 P hP)
theorem wp_getR {pc : Nat} {L : aL} {st : List aV} {σ : aS} {i ci k c r : Nat} {fk : List Nat} (hd : decode cc pc = .ok (.getfield i, 3)) (h0 : fLink own i ci k) (h1 : c < NC) (h2 : cd c = .inl (ci, fk)) (h3 : fk[k]? = some (r + 3)) (k0 : Wp own cc NC C Q rk sc xl xs (pc + 3) L (vr r :: st) σ) : Wp own cc NC C Q rk sc xl xs pc L (vr c :: st) σ := fun P hP => hP.2.2.2.2.2.2.2.2.2.2.2.2.2.2.2.2.2.2.2.2.2.2.2.2.2.2.2.2.2.2.2.2.2.2.2.2.2.2.2.2.2.2.2.2.2.2.2.2.2.2.2.2.2.2.2.2.2.1 _ _ _ _ _ _ _ _ _ _ hd h0 h1 h2 h3 (k0 P hP)
theorem wp_putI {pc : Nat} {L : aL} {st : List aV} {σ : aS} {i ci k c : Nat} {fk : List Nat} {x : Int} (hd : decode cc pc = .ok (.putfield i, 3)) (h0 : fLink own i ci k) (h1 : c < NC) (h2 : cd c = .inl (ci, fk)) (h3 : fk[k]? = some 0) (h4 : (clsT ci k).2.2.2 = false) (h5 : clsY ci k = .int) (k0 : Wp own cc NC C Q rk sc xl xs (pc + 3) L st (sI σ c k x)) : Wp own cc NC C Q rk sc xl xs pc L (vi x :: vr c :: st) σ := fun P hP => hP.2.2.2.2.2.2.2.2.2.2.2.2.2.2.2.2.2.2.2.2.2.2.2.2.2.2.2.2.2.2.2.2.2.2.2.2.2.2.2.2.2.2.2.2.2.2.2.2.2.2.2.2.2.2.2.2.2.2.1 _ _ _ _ _ _ _ _ _ _ hd h0 h1 h2 h3 h4 h5 (k0 P hP)
theorem wp_putZ {pc : Nat} {L : aL} {st : List aV} {σ : aS} {i ci k c : Nat} {fk : List Nat} {x : Int} (hd : decode cc pc = .ok (.putfield i, 3)) (h0 : fLink own i ci k) (h1 : c < NC) (h2 : cd c = .inl (ci, fk)) (h3 : fk[k]? = some 2) (h4 : (clsT ci k).2.2.2 = false) (h5 : clsY ci k = .boolean) (h6 : x = 0 ∨ x = 1) (k0 : Wp own cc NC C Q rk sc xl xs (pc + 3) L st (sI σ c k x)) : Wp own cc NC C Q rk sc xl xs pc L (vi x :: vr c :: st) σ := fun P hP => hP.2.2.2.2.2.2.2.2.2.2.2.2.2.2.2.2.2.2.2.2.2.2.2.2.2.2.2.2.2.2.2.2.2.2.2.2.2.2.2.2.2.2.2.2.2.2.2.2.2.2.2.2.2.2.2.2.2.2.2.1 _ _ _ _ _ _ _ _ _ _ hd h0 h1 h2 h3 h4 h5 h6 (k0 P hP)
theorem wp_putJ {pc : Nat} {L : aL} {st : List aV} {σ : aS} {i ci k c : Nat} {fk : List Nat} {x : BitVec 64} (hd : decode cc pc = .ok (.putfield i, 3)) (h0 : fLink own i ci k) (h1 : c < NC) (h2 : cd c = .inl (ci, fk)) (h3 : fk[k]? = some 1) (h4 : (clsT ci k).2.2.2 = false) (h5 : clsY ci k = .long) (k0 : Wp own cc NC C Q rk sc xl xs (pc + 3) L st (sJ σ c k x)) : Wp own cc NC C Q rk sc xl xs pc L (vl x :: vr c :: st) σ := fun P hP => hP.2.2.2.2.2.2.2.2.2.2.2.2.2.2.2.2.2.2.2.2.2.2.2.2.2.2.2.2.2.2.2.2.2.2.2.2.2.2.2.2.2.2.2.2.2.2.2.2.2.2.2.2.2.2.2.2.2.2.2.2.1 _ _ _ _ _ _ _ _ _ _ hd h0 h1 h2 h3 h4 h5 (k0 P hP)
theorem wp_iaload {pc : Nat} {L : aL} {st : List aV} {σ : aS} {c n : Nat} {j : Int} (hd : decode cc pc = .ok (.iaload, 1)) (h0 : c < NC) (h1 : cd c = .inr (0, n)) (h2 : 0 ≤ j) (h3 : j < n) (h4 : n < 2 ^ 31) (k0 : Wp own cc NC C Q rk sc xl xs (pc + 1) L (vi (σ.1 c j.toNat) :: st) σ) : Wp own cc NC C Q rk sc xl xs pc L (vi j :: vr c :: st) σ := fun P hP => hP.2.2.2.2.2.2.2.2.2.2.2.2.2.2.2.2.2.2.2.2.2.2.2.2.2.2.2.2.2.2.2.2.2.2.2.2.2.2.2.2.2.2.2.2.2.2.2.2.2.2.2.2.2.2.2.2.2.2.2.2.2.1 _ _ _ _ _ _ _ hd h0 h1 h2 h3 h4 (k0 P hP)
theorem wp_baload {pc : Nat} {L : aL} {st : List aV} {σ : aS} {c n : Nat} {j : Int} (hd : decode cc pc = .ok (.baload, 1)) (h0 : c < NC) (h1 : cd c = .inr (2, n)) (h2 : 0 ≤ j) (h3 : j < n) (h4 : n < 2 ^ 31) (k0 : Wp own cc NC C Q rk sc xl xs (pc + 1) L (vi (σ.1 c j.toNat) :: st) σ) : Wp own cc NC C Q rk sc xl xs pc L (vi j :: vr c :: st) σ := fun P hP => hP.2.2.2.2.2.2.2.2.2.2.2.2.2.2.2.2.2.2.2.2.2.2.2.2.2.2.2.2.2.2.2.2.2.2.2.2.2.2.2.2.2.2.2.2.2.2.2.2.2.2.2.2.2.2.2.2.2.2.2.2.2.2.1 _ _ _ _ _ _ _ hd h0 h1 h2 h3 h4 (k0 P hP)
theorem wp_laload {pc : Nat} {L : aL} {st : List aV} {σ : aS} {c n : Nat} {j : Int} (hd : decode cc pc = .ok (.laload, 1)) (h0 : c < NC) (h1 : cd c = .inr (1, n)) (h2 : 0 ≤ j) (h3 : j < n) (h4 : n < 2 ^ 31) (k0 : Wp own cc NC C Q rk sc xl xs (pc + 1) L (vl (σ.2 c j.toNat) :: st) σ) : Wp own cc NC C Q rk sc xl xs pc L (vi j :: vr c :: st) σ := fun P hP => hP.2.2.2.2.2.2.2.2.2.2.2.2.2.2.2.2.2.2.2.2.2.2.2.2.2.2.2.2.2.2.2.2.2.2.2.2.2.2.2.2.2.2.2.2.2.2.2.2.2.2.2.2.2.2.2.2.2.2.2.2.2.2.2.1 _ _ _ _ _ _ _ hd h0 h1 h2 h3 h4 (k0 P hP)
theorem wp_aaload {pc : Nat} {L : aL} {st : List aV} {σ : aS} {c n : Nat} {j : Int} (hd : decode cc pc = .ok (.aaload, 1)) (h0 : c < NC) (h1 : cd c = .inr (3, n)) (h2 : 0 ≤ j) (h3 : j < n) (h4 : n < 2 ^ 31) (k0 : Wp own cc NC C Q rk sc xl xs (pc + 1) L (vr (5 + j.toNat) :: st) σ) : Wp own cc NC C Q rk sc xl xs pc L (vi j :: vr c :: st) σ := fun P hP => hP.2.2.2.2.2.2.2.2.2.2.2.2.2.2.2.2.2.2.2.2.2.2.2.2.2.2.2.2.2.2.2.2.2.2.2.2.2.2.2.2.2.2.2.2.2.2.2.2.2.2.2.2.2.2.2.2.2.2.2.2.2.2.2.2.1 _ _ _ _ _ _ _ hd h0 h1 h2 h3 h4 (k0 P hP)
theorem wp_iastore {pc : Nat} {L : aL} {st : List aV} {σ : aS} {c n : Nat} {j x : Int} (hd : decode cc pc = .ok (.iastore, 1)) (h0 : c < NC) (h1 : cd c = .inr (0, n)) (h2 : 0 ≤ j) (h3 : j < n) (h4 : n < 2 ^ 31) (k0 : Wp own cc NC C Q rk sc xl xs (pc + 1) L st (sI σ c j.toNat x)) : Wp own cc NC C Q rk sc xl xs pc L (vi x :: vi j :: vr c :: st) σ := fun P hP => hP.2.2.2.2.2.2.2.2.2.2.2.2.2.2.2.2.2.2.2.2.2.2.2.2.2.2.2.2.2.2.2.2.2.2.2.2.2.2.2.2.2.2.2.2.2.2.2.2.2.2.2.2.2.2.2.2.2.2.2.2.2.2.2.2.2.1 _ _ _ _ _ _ _ _ hd h0 h1 h2 h3 h4 (k0 P hP)
theorem wp_bastore {pc : Nat} {L : aL} {st : List aV} {σ : aS} {c n : Nat} {j x : Int} (hd : decode cc pc = .ok (.bastore, 1)) (h0 : c < NC) (h1 : cd c = .inr (2, n)) (h2 : 0 ≤ j) (h3 : j < n) (h4 : n < 2 ^ 31) (h5 : x = 0 ∨ x = 1) (k0 : Wp own cc NC C Q rk sc xl xs (pc + 1) L st (sI σ c j.toNat x)) : Wp own cc NC C Q rk sc xl xs pc L (vi x :: vi j :: vr c :: st) σ := fun P hP => hP.2.2.2.2.2.2.2.2.2.2.2.2.2.2.2.2.2.2.2.2.2.2.2.2.2.2.2.2.2.2.2.2.2.2.2.2.2.2.2.2.2.2.2.2.2.2.2.2.2.2.2.2.2.2.2.2.2.2.2.2.2.2.2.2.2.2.1 _ _ _ _ _ _ _ _ hd h0 h1 h2 h3 h4 h5 (k0 P hP)
theorem wp_lastore {pc : Nat} {L : aL} {st : List aV} {σ : aS} {c n : Nat} {j : Int} {x : BitVec 64} (hd : decode cc pc = .ok (.lastore, 1)) (h0 : c < NC) (h1 : cd c = .inr (1, n)) (h2 : 0 ≤ j) (h3 : j < n) (h4 : n < 2 ^ 31) (k0 : Wp own cc NC C Q rk sc xl xs (pc + 1) L st (sJ σ c j.toNat x)) : Wp own cc NC C Q rk sc xl xs pc L (vl x :: vi j :: vr c :: st) σ := fun P hP => hP.2.2.2.2.2.2.2.2.2.2.2.2.2.2.2.2.2.2.2.2.2.2.2.2.2.2.2.2.2.2.2.2.2.2.2.2.2.2.2.2.2.2.2.2.2.2.2.2.2.2.2.2.2.2.2.2.2.2.2.2.2.2.2.2.2.2.2.1 _ _ _ _ _ _ _ _ hd h0 h1 h2 h3 h4 (k0 P hP)
theorem wp_alen {pc : Nat} {L : aL} {st : List aV} {σ : aS} {c t n : Nat} (hd : decode cc pc = .ok (.arraylength, 1)) (h0 : c < NC) (h1 : cd c = .inr (t, n)) (h2 : t < 3) (h3 : n < 2 ^ 31) (k0 : Wp own cc NC C Q rk sc xl xs (pc + 1) L (vi n :: st) σ) : Wp own cc NC C Q rk sc xl xs pc L (vr c :: st) σ := fun P hP => hP.2.2.2.2.2.2.2.2.2.2.2.2.2.2.2.2.2.2.2.2.2.2.2.2.2.2.2.2.2.2.2.2.2.2.2.2.2.2.2.2.2.2.2.2.2.2.2.2.2.2.2.2.2.2.2.2.2.2.2.2.2.2.2.2.2.2.2.2.1 _ _ _ _ _ _ _ hd h0 h1 h2 h3 (k0 P hP)
theorem wp_ialoadX {pc : Nat} {L : aL} {st : List aV} {σ : aS} {j : Int} (hd : decode cc pc = .ok (.iaload, 1)) (h0 : sc = true) (h1 : 0 ≤ j) (h2 : j < xl) (h3 : xl < 2 ^ 31) (k0 : Wp own cc NC C Q rk sc xl xs (pc + 1) L (vi (xs j.toNat) :: st) σ) : Wp own cc NC C Q rk sc xl xs pc L (vi j :: vr 99 :: st) σ := fun P hP => hP.2.2.2.2.2.2.2.2.2.2.2.2.2.2.2.2.2.2.2.2.2.2.2.2.2.2.2.2.2.2.2.2.2.2.2.2.2.2.2.2.2.2.2.2.2.2.2.2.2.2.2.2.2.2.2.2.2.2.2.2.2.2.2.2.2.2.2.2.2.1 _ _ _ _ _ hd h0 h1 h2 h3 (k0 P hP)
theorem wp_alenX {pc : Nat} {L : aL} {st : List aV} {σ : aS}  (hd : decode cc pc = .ok (.arraylength, 1)) (h0 : sc = true) (h1 : xl < 2 ^ 31) (k0 : Wp own cc NC C Q rk sc xl xs (pc + 1) L (vi xl :: st) σ) : Wp own cc NC C Q rk sc xl xs pc L (vr 99 :: st) σ := fun P hP => hP.2.2.2.2.2.2.2.2.2.2.2.2.2.2.2.2.2.2.2.2.2.2.2.2.2.2.2.2.2.2.2.2.2.2.2.2.2.2.2.2.2.2.2.2.2.2.2.2.2.2.2.2.2.2.2.2.2.2.2.2.2.2.2.2.2.2.2.2.2.2.1 _ _ _ _  hd h0 h1 (k0 P hP)
theorem wp_callV {pc : Nat} {L : aL} {st : List aV} {σ : aS} {i m ci c : Nat} {fk : List Nat} {as : List aV}  (hd : decode cc pc = .ok (.invokevirtual i, 3)) (h0 : vLink own i m ci as.length) (h1 : c < NC) (h2 : cd c = .inl (ci, fk)) (h3 : stw st ≤ 8) (k : C m (vr c :: as) σ (fun r σ' => Wp own cc NC C Q rk sc xl xs (pc + 3) L (r.toList ++ st) σ')) : Wp own cc NC C Q rk sc xl xs pc L (as.reverse ++ vr c :: st) σ := fun P hP => hP.2.2.2.2.2.2.2.2.2.2.2.2.2.2.2.2.2.2.2.2.2.2.2.2.2.2.2.2.2.2.2.2.2.2.2.2.2.2.2.2.2.2.2.2.2.2.2.2.2.2.2.2.2.2.2.2.2.2.2.2.2.2.2.2.2.2.2.2.2.2.2.1 _ _ _ _ _ _ _ _ _ _ _ hd h0 h1 h2 h3 k (fun r σ' q => q P hP)
theorem wp_callS {pc : Nat} {L : aL} {st : List aV} {σ : aS} {i m : Nat} {as : List aV}  (hd : decode cc pc = .ok (.invokestatic i, 3)) (h0 : zLink own i m as.length) (h1 : stw st ≤ 8) (k : C m as σ (fun r σ' => Wp own cc NC C Q rk sc xl xs (pc + 3) L (r.toList ++ st) σ')) : Wp own cc NC C Q rk sc xl xs pc L (as.reverse ++ st) σ := fun P hP => hP.2.2.2.2.2.2.2.2.2.2.2.2.2.2.2.2.2.2.2.2.2.2.2.2.2.2.2.2.2.2.2.2.2.2.2.2.2.2.2.2.2.2.2.2.2.2.2.2.2.2.2.2.2.2.2.2.2.2.2.2.2.2.2.2.2.2.2.2.2.2.2.2.1 _ _ _ _ _ _ _ _ hd h0 h1 k (fun r σ' q => q P hP)
theorem wp_acopy {pc : Nat} {L : aL} {st : List aV} {σ : aS} {i c0 n0 c1 n1 : Nat} {sp dp n : Int} (hd : decode cc pc = .ok (.invokestatic i, 3)) (h0 : yLink own i) (h1 : stw st ≤ 8) (h2 : c0 < NC) (h3 : cd c0 = .inr (0, n0)) (h4 : c1 < NC) (h5 : cd c1 = .inr (0, n1)) (h6 : n0 < 2 ^ 31) (h7 : n1 < 2 ^ 31) (h8 : 0 ≤ sp) (h9 : 0 ≤ dp) (h10 : 0 ≤ n) (h11 : sp + n ≤ n0) (h12 : dp + n ≤ n1) (k0 : Wp own cc NC C Q rk sc xl xs (pc + 3) L st (sC σ c0 sp.toNat c1 dp.toNat n.toNat)) : Wp own cc NC C Q rk sc xl xs pc L (vi n :: vi dp :: vr c1 :: vi sp :: vr c0 :: st) σ := fun P hP => hP.2.2.2.2.2.2.2.2.2.2.2.2.2.2.2.2.2.2.2.2.2.2.2.2.2.2.2.2.2.2.2.2.2.2.2.2.2.2.2.2.2.2.2.2.2.2.2.2.2.2.2.2.2.2.2.2.2.2.2.2.2.2.2.2.2.2.2.2.2.2.2.2.2.1 _ _ _ _ _ _ _ _ _ _ _ _ hd h0 h1 h2 h3 h4 h5 h6 h7 h8 h9 h10 h11 h12 (k0 P hP)
theorem wp_mmax {pc : Nat} {L : aL} {st : List aV} {σ : aS} {i : Nat} {x y : Int} (hd : decode cc pc = .ok (.invokestatic i, 3)) (h0 : xLink own i) (h1 : stw st ≤ 8) (k0 : Wp own cc NC C Q rk sc xl xs (pc + 3) L (vi (if x < y then y else x) :: st) σ) : Wp own cc NC C Q rk sc xl xs pc L (vi y :: vi x :: st) σ := fun P hP => hP.2.2.2.2.2.2.2.2.2.2.2.2.2.2.2.2.2.2.2.2.2.2.2.2.2.2.2.2.2.2.2.2.2.2.2.2.2.2.2.2.2.2.2.2.2.2.2.2.2.2.2.2.2.2.2.2.2.2.2.2.2.2.2.2.2.2.2.2.2.2.2.2.2.2.1 _ _ _ _ _ _ _ hd h0 h1 (k0 P hP)
theorem wp_mmin {pc : Nat} {L : aL} {st : List aV} {σ : aS} {i : Nat} {x y : Int} (hd : decode cc pc = .ok (.invokestatic i, 3)) (h0 : nLink own i) (h1 : stw st ≤ 8) (k0 : Wp own cc NC C Q rk sc xl xs (pc + 3) L (vi (if y < x then y else x) :: st) σ) : Wp own cc NC C Q rk sc xl xs pc L (vi y :: vi x :: st) σ := fun P hP => hP.2.2.2.2.2.2.2.2.2.2.2.2.2.2.2.2.2.2.2.2.2.2.2.2.2.2.2.2.2.2.2.2.2.2.2.2.2.2.2.2.2.2.2.2.2.2.2.2.2.2.2.2.2.2.2.2.2.2.2.2.2.2.2.2.2.2.2.2.2.2.2.2.2.2.2.1 _ _ _ _ _ _ _ hd h0 h1 (k0 P hP)
theorem wp_iret {pc : Nat} {L : aL} {σ : aS} {x : Int} (hd : decode cc pc = .ok (.ireturn, 1)) (h0 : rk = 0 ∨ (rk = 1 ∧ (x = 0 ∨ x = 1))) (h1 : Q (some (vi x)) σ) : Wp own cc NC C Q rk sc xl xs pc L ([vi x]) σ := fun P hP => hP.2.2.2.2.2.2.2.2.2.2.2.2.2.2.2.2.2.2.2.2.2.2.2.2.2.2.2.2.2.2.2.2.2.2.2.2.2.2.2.2.2.2.2.2.2.2.2.2.2.2.2.2.2.2.2.2.2.2.2.2.2.2.2.2.2.2.2.2.2.2.2.2.2.2.2.2.1 _ _ _ _ hd h0 h1
theorem wp_lret {pc : Nat} {L : aL} {σ : aS} {x : BitVec 64} (hd : decode cc pc = .ok (.lreturn, 1)) (h0 : rk = 2) (h1 : Q (some (vl x)) σ) : Wp own cc NC C Q rk sc xl xs pc L ([vl x]) σ := fun P hP => hP.2.2.2.2.2.2.2.2.2.2.2.2.2.2.2.2.2.2.2.2.2.2.2.2.2.2.2.2.2.2.2.2.2.2.2.2.2.2.2.2.2.2.2.2.2.2.2.2.2.2.2.2.2.2.2.2.2.2.2.2.2.2.2.2.2.2.2.2.2.2.2.2.2.2.2.2.2.1 _ _ _ _ hd h0 h1
theorem wp_vret {pc : Nat} {L : aL} {σ : aS}  (hd : decode cc pc = .ok (.return_, 1)) (h0 : rk = 3) (h1 : Q none σ) : Wp own cc NC C Q rk sc xl xs pc L ([]) σ := fun P hP => hP.2.2.2.2.2.2.2.2.2.2.2.2.2.2.2.2.2.2.2.2.2.2.2.2.2.2.2.2.2.2.2.2.2.2.2.2.2.2.2.2.2.2.2.2.2.2.2.2.2.2.2.2.2.2.2.2.2.2.2.2.2.2.2.2.2.2.2.2.2.2.2.2.2.2.2.2.2.2.1 _ _ _  hd h0 h1
theorem wp_keep {pc : Nat} (ms : List Bool) {L : aL} {st : List aV} {σ : aS} (k : Wp own cc NC C Q rk sc xl xs pc (kpL ms L) st σ) : Wp own cc NC C Q rk sc xl xs pc L st σ := fun P hP => hP.2.2.2.2.2.2.2.2.2.2.2.2.2.2.2.2.2.2.2.2.2.2.2.2.2.2.2.2.2.2.2.2.2.2.2.2.2.2.2.2.2.2.2.2.2.2.2.2.2.2.2.2.2.2.2.2.2.2.2.2.2.2.2.2.2.2.2.2.2.2.2.2.2.2.2.2.2.2.2 _ _ _ _ _ (k P hP)
theorem wp_mono {Q' : aQ} {pc : Nat} {L : aL} {st : List aV} {σ : aS} (h : Wp own cc NC C Q rk sc xl xs pc L st σ) (hq : ∀ r σ', Q r σ' → Q' r σ') : Wp own cc NC C Q' rk sc xl xs pc L st σ := by
  intro P hP
  refine h P ?_
  obtain ⟨h_iconst, h_bipush, h_sipush, h_lconst, h_ldc, h_ldcw, h_ldc2, h_iload_n, h_iload, h_istore_n, h_istore, h_lload_n, h_lload, h_lstore_n, h_lstore, h_aload_n, h_aload, h_astore_n, h_astore, h_iinc, h_iadd, h_isub, h_imul, h_iand, h_ior, h_ixor, h_ineg, h_idiv, h_irem, h_ishl, h_ishr, h_iushr, h_ladd, h_lsub, h_lmul, h_land, h_lor, h_lxor, h_ldiv, h_lrem, h_lshl, h_lushr, h_lshr, h_lcmp, h_i2l, h_l2i, h_i2b, h_i2s, h_dup, h_if, h_icmp, h_goto, h_tabIn, h_tabOut, h_lookup, h_getI, h_getJ, h_getR, h_putI, h_putZ, h_putJ, h_iaload, h_baload, h_laload, h_aaload, h_iastore, h_bastore, h_lastore, h_alen, h_ialoadX, h_alenX, h_callV, h_callS, h_acopy, h_mmax, h_mmin, h_iret, h_lret, h_vret, h_keep⟩ := hP
  exact ⟨h_iconst, h_bipush, h_sipush, h_lconst, h_ldc, h_ldcw, h_ldc2, h_iload_n, h_iload, h_istore_n, h_istore, h_lload_n, h_lload, h_lstore_n, h_lstore, h_aload_n, h_aload, h_astore_n, h_astore, h_iinc, h_iadd, h_isub, h_imul, h_iand, h_ior, h_ixor, h_ineg, h_idiv, h_irem, h_ishl, h_ishr, h_iushr, h_ladd, h_lsub, h_lmul, h_land, h_lor, h_lxor, h_ldiv, h_lrem, h_lshl, h_lushr, h_lshr, h_lcmp, h_i2l, h_l2i, h_i2b, h_i2s, h_dup, h_if, h_icmp, h_goto, h_tabIn, h_tabOut, h_lookup, h_getI, h_getJ, h_getR, h_putI, h_putZ, h_putJ, h_iaload, h_baload, h_laload, h_aaload, h_iastore, h_bastore, h_lastore, h_alen, h_ialoadX, h_alenX, h_callV, h_callS, h_acopy, h_mmax, h_mmin, fun pc L σ x a b c => h_iret pc L σ x a b (hq _ _ c), fun pc L σ x a b c => h_lret pc L σ x a b (hq _ _ c), fun pc L σ a b c => h_vret pc L σ a b (hq _ _ c), h_keep⟩
end WPS
/-- the locals at a method's entry -/
def aEnt (as : List aV) (n : Nat) : aL := match as with
  | [] => List.replicate n none
  | v :: as => if isL v then some v :: none :: aEnt as (n - 2) else some v :: aEnt as (n - 1)
def aWd (as : List aV) : Nat := (as.map catV).sum
def mK (m : Nat) : Nat := match mR m with
  | some .int => 0
  | some .boolean => 1
  | some .long => 2
  | none => 3
  | _ => 9
/-- a call, at most d deep -/
def aCall (NC : Nat) : Nat → aC
  | 0 => fun _ _ _ _ => False
  | d + 1 => fun m as σ Q => (m < 166 ∧ aWd as ≤ mL m) ∧ Wp (mY m).cls (mC m) NC (aCall NC d) Q (mK m) false 0 (fun _ => 0) 0 (aEnt as (mL m)) [] σ

