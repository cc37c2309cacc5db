/-! tables of the system, written by wip/whole/gen.py out of the claim's names and words: classes, fields, methods, links -/
def xC : Nat → String := fun c => match c with
  | 0 => "Saddletree$Hide"
  | 1 => "Saddletree$Part"
  | 2 => "Saddletree$Horse"
  | 3 => "Saddletree$Saddle"
  | 4 => "Saddletree$Route"
  | 5 => "Saddletree$Seat"
  | 6 => "Saddletree"
  | 7 => "Saddletree$Seat"
  | 8 => "java/lang/IllegalArgumentException"
  | 9 => "java/lang/IllegalStateException"
  | 10 => "java/lang/IndexOutOfBoundsException"
  | 11 => "java/lang/Math"
  | _ => "SaddletreeLaw"
def xT0 : u_T := fun k => match k with
  | 0 => ("Saddletree$Hide", "thickness", "I", true)
  | _ => ("Saddletree$Hide", "gone", "[Z", true)
def xY0 : Nat → FieldType := fun k => match k with
  | 0 => .int
  | _ => .array .boolean
def xT1 : u_T := fun k => match k with
  | 0 => ("Saddletree$Part", "columns", "I", true)
  | 1 => ("Saddletree$Part", "rows", "I", true)
  | 2 => ("Saddletree$Part", "firstRow", "I", true)
  | 3 => ("Saddletree$Part", "isStrap", "Z", true)
  | 4 => ("Saddletree$Part", "holes", "[Z", true)
  | 5 => ("Saddletree$Part", "thickness", "I", false)
  | 6 => ("Saddletree$Part", "holeCount", "I", false)
  | 7 => ("Saddletree$Part", "wear", "I", false)
  | 8 => ("Saddletree$Part", "seams", "I", false)
  | 9 => ("Saddletree$Part", "lowerRing", "I", false)
  | 10 => ("Saddletree$Part", "upperRing", "I", false)
  | 11 => ("Saddletree$Part", "length", "I", false)
  | _ => ("Saddletree$Part", "broke", "Z", false)
def xY1 : Nat → FieldType := fun k => match k with
  | 0 => .int
  | 1 => .int
  | 2 => .int
  | 3 => .boolean
  | 4 => .array .boolean
  | 5 => .int
  | 6 => .int
  | 7 => .int
  | 8 => .int
  | 9 => .int
  | 10 => .int
  | 11 => .int
  | _ => .boolean
def xT2 : u_T := fun k => match k with
  | 0 => ("Saddletree$Horse", "heights", "[I", true)
  | 1 => ("Saddletree$Horse", "sores", "[I", true)
  | _ => ("Saddletree$Horse", "blames", "[I", true)
def xY2 : Nat → FieldType := fun k => match k with
  | 0 => .array .int
  | 1 => .array .int
  | _ => .array .int
def xT3 : u_T := fun k => match k with
  | 0 => ("Saddletree$Saddle", "heights", "[I", true)
  | _ => ("Saddletree$Saddle", "flocks", "[I", true)
def xY3 : Nat → FieldType := fun k => match k with
  | 0 => .array .int
  | _ => .array .int
def xT4 : u_T := fun k => match k with
  | 0 => ("Saddletree$Route", "shortest", "[I", true)
  | 1 => ("Saddletree$Route", "sharing", "[I", true)
  | 2 => ("Saddletree$Route", "isTaken", "[Z", true)
  | 3 => ("Saddletree$Route", "toGoal", "[I", true)
  | 4 => ("Saddletree$Route", "rings", "[I", true)
  | _ => ("Saddletree$Route", "ringCount", "I", false)
def xY4 : Nat → FieldType := fun k => match k with
  | 0 => .array .int
  | 1 => .array .int
  | 2 => .array .boolean
  | 3 => .array .int
  | 4 => .array .int
  | _ => .int
def xT5 : u_T := fun k => match k with
  | 0 => ("Saddletree$Seat", "gaps", "[I", true)
  | _ => ("Saddletree$Seat", "sorted", "[I", true)
def xY5 : Nat → FieldType := fun k => match k with
  | 0 => .array .int
  | _ => .array .int
def xT6 : u_T := fun k => match k with
  | 0 => ("Saddletree", "hides", "[LSaddletree$Hide;", true)
  | 1 => ("Saddletree", "hideCount", "I", false)
  | 2 => ("Saddletree", "parts", "[LSaddletree$Part;", true)
  | 3 => ("Saddletree", "partCount", "I", false)
  | 4 => ("Saddletree", "route", "LSaddletree$Route;", true)
  | 5 => ("Saddletree", "horses", "[LSaddletree$Horse;", true)
  | 6 => ("Saddletree", "saddles", "[LSaddletree$Saddle;", true)
  | 7 => ("Saddletree", "seat", "LSaddletree$Seat;", true)
  | _ => ("Saddletree", "rideCount", "I", false)
def xY6 : Nat → FieldType := fun k => match k with
  | 0 => .array (.object "Saddletree$Hide")
  | 1 => .int
  | 2 => .array (.object "Saddletree$Part")
  | 3 => .int
  | 4 => .object "Saddletree$Route"
  | 5 => .array (.object "Saddletree$Horse")
  | 6 => .array (.object "Saddletree$Saddle")
  | 7 => .object "Saddletree$Seat"
  | _ => .int
def xT7 : u_T := fun k => match k with
  | 0 => ("Saddletree$Seat", "gaps", "[I", true)
  | _ => ("Saddletree$Seat", "sorted", "[I", true)
def xY7 : Nat → FieldType := fun k => match k with
  | 0 => .array .int
  | _ => .array .int
def xT : Nat → u_T := fun c => match c with
  | 0 => xT0
  | 1 => xT1
  | 2 => xT2
  | 3 => xT3
  | 4 => xT4
  | 5 => xT5
  | 6 => xT6
  | 7 => xT7
  | _ => fun _ => ("", "", "", false)
def xY : Nat → Nat → FieldType := fun c => match c with
  | 0 => xY0
  | 1 => xY1
  | 2 => xY2
  | 3 => xY3
  | 4 => xY4
  | 5 => xY5
  | 6 => xY6
  | 7 => xY7
  | _ => fun _ => .int
def xN : Nat → Nat := fun c => match c with
  | 0 => 2
  | 1 => 13
  | 2 => 3
  | 3 => 2
  | 4 => 6
  | 5 => 2
  | 6 => 9
  | 7 => 2
  | _ => 0
/-- a field: 0 an int, 1 a boolean, 2 a reference -/
def xfk (c k : Nat) : Nat := match xY c k with | .int => 0 | .boolean => 1 | _ => 2
/-- methods: the place of the word that holds the code, the owner, how many arguments, how many locals, whether static -/
def xMs : List (Nat × Nat × Nat × Nat × Bool) := [
  (353, 0, 2, 2, false), -- 0 X0_init
  (374, 0, 5, 7, false), -- 1 X0_spoil
  (378, 0, 1, 6, false), -- 2 X0_squaresLeft
  (400, 0, 3, 3, false), -- 3 X0_thinnest
  (386, 0, 6, 6, false), -- 4 X0_canGive
  (467, 0, 5, 11, false), -- 5 X0_leastWorth
  (475, 0, 5, 6, false), -- 6 X0_firstColumn
  (393, 0, 5, 7, false), -- 7 X0_isWhole
  (389, 0, 2, 2, true), -- 8 X0_reachesBelly
  (470, 0, 3, 6, true), -- 9 X0_worth
  (81, 2, 1, 1, false), -- 10 X1_init
  (595, 2, 1, 5, false), -- 11 X1_isLame
  (637, 2, 2, 3, false), -- 12 X1_heal
  (624, 2, 5, 5, false), -- 13 X1_blame
  (714, 2, 4, 4, false), -- 14 X1_blameOf
  (403, 1, 6, 6, false), -- 15 X2_init
  (494, 1, 2, 2, false), -- 16 X2_hasHoleNear
  (501, 1, 2, 4, false), -- 17 X2_addHole
  (516, 1, 2, 4, false), -- 18 X2_placeOf
  (311, 1, 1, 3, false), -- 19 X2_strength
  (263, 1, 1, 1, false), -- 20 X2_isBuckled
  (563, 1, 1, 1, false), -- 21 X2_canBeSewn
  (525, 1, 1, 1, false), -- 22 X2_letGo
  (546, 1, 1, 1, false), -- 23 X2_snap
  (53, 4, 1, 1, false), -- 24 X3_init
  (255, 4, 4, 8, false), -- 25 X3_look
  (298, 4, 1, 1, false), -- 26 X3_exists
  (651, 4, 2, 2, false), -- 27 X3_ringAt
  (302, 4, 2, 3, false), -- 28 X3_isBearing
  (542, 4, 3, 4, false), -- 29 X3_burden
  (306, 4, 2, 3, false), -- 30 X3_mostFor
  (266, 4, 2, 2, true), -- 31 X3_pair
  (259, 4, 1, 2, false), -- 32 X3_clear
  (270, 4, 3, 3, false), -- 33 X3_note
  (274, 4, 2, 6, false), -- 34 X3_reckon
  (279, 4, 2, 4, false), -- 35 X3_nearest
  (283, 4, 3, 4, false), -- 36 X3_through
  (290, 4, 3, 6, false), -- 37 X3_walk
  (294, 4, 2, 3, false), -- 38 X3_lowestNext
  (101, 3, 1, 1, false), -- 39 X4_init
  (118, 5, 1, 1, false), -- 40 X5_init
  (601, 5, 3, 4, false), -- 41 X5_measure
  (614, 5, 3, 3, false), -- 42 X5_pressureAt
  (605, 5, 2, 7, false), -- 43 X5_depthBySearch
  (730, 5, 2, 6, false), -- 44 X5_depthByGaps
  (745, 5, 2, 4, false), -- 45 X5_bridgeBits
  (749, 5, 4, 5, false), -- 46 X5_isPressed
  (610, 5, 2, 4, false), -- 47 X5_together
  (734, 5, 1, 4, false), -- 48 X5_sortGaps
  (41, 6, 1, 2, false), -- 49 X6_init
  (329, 6, 2, 3, false), -- 50 X6_hide
  (365, 6, 4, 5, false), -- 51 X6_fault
  (382, 6, 7, 9, false), -- 52 X6_cut
  (463, 6, 6, 7, false), -- 53 X6_find
  (480, 6, 3, 5, false), -- 54 X6_skive
  (490, 6, 3, 4, false), -- 55 X6_pierce
  (672, 6, 3, 5, false), -- 56 X6_match
  (505, 6, 3, 4, false), -- 57 X6_part
  (510, 6, 5, 6, false), -- 58 X6_buckle
  (520, 6, 2, 4, false), -- 59 X6_unbuckle
  (642, 6, 5, 6, false), -- 60 X6_bears
  (646, 6, 4, 4, false), -- 61 X6_way
  (529, 6, 4, 5, false), -- 62 X6_pull
  (158, 6, 3, 6, false), -- 63 X6_holds
  (555, 6, 2, 3, false), -- 64 X6_oil
  (559, 6, 5, 11, false), -- 65 X6_sew
  (569, 6, 4, 6, false), -- 66 X6_back
  (578, 6, 4, 6, false), -- 67 X6_tree
  (587, 6, 4, 6, false), -- 68 X6_flock
  (722, 6, 4, 4, false), -- 69 X6_sinks
  (726, 6, 4, 4, false), -- 70 X6_sinksAnew
  (695, 6, 5, 5, false), -- 71 X6_pressure
  (741, 6, 4, 4, false), -- 72 X6_bridges
  (591, 6, 7, 14, false), -- 73 X6_ride
  (633, 6, 2, 7, false), -- 74 X6_rest
  (703, 6, 4, 5, false), -- 75 X6_sore
  (710, 6, 5, 6, false), -- 76 X6_share
  (718, 6, 4, 9, false), -- 77 X6_cause
  (661, 6, 1, 1, false), -- 78 X6_rides
  (534, 6, 4, 7, false), -- 79 X6_breakStraps
  (538, 6, 2, 4, false), -- 80 X6_firstOverborne
  (551, 6, 2, 4, false), -- 81 X6_wearStraps
  (699, 6, 4, 6, false), -- 82 X6_measureGaps
  (369, 6, 2, 3, false), -- 83 X6_hideAt
  (484, 6, 2, 3, false), -- 84 X6_partAt
  (573, 6, 2, 3, false), -- 85 X6_horseAt
  (582, 6, 2, 3, false), -- 86 X6_saddleAt
  (164, 6, 2, 2, true), -- 87 X6_checkIndex
  (332, 6, 3, 3, true), -- 88 X6_checkArgument
  (235, 6, 2, 2, true), -- 89 X6_checkDifferent
  (161, 6, 2, 2, true), -- 90 X6_checkRings
  (318, 12, 3, 4, true), -- 91 L_part
  (322, 12, 8, 9, true), -- 92 L_does
  (667, 12, 4, 5, true), -- 93 L_strength
  (679, 12, 4, 9, true), -- 94 L_length
  (676, 12, 5, 15, true), -- 95 L_finds
  (685, 12, 5, 7, true), -- 96 L_isOn
  (682, 12, 5, 8, true), -- 97 L_bears
  (765, 12, 7, 8, true), -- 98 L_breaks
  (762, 12, 8, 13, true), -- 99 L_pulls
  (688, 12, 4, 8, true), -- 100 L_depth
  (691, 12, 5, 6, true), -- 101 L_pressure
  (706, 12, 2, 4, true), -- 102 L_isLame
  (664, 12, 1, 3, true), -- 103 L_many
  (657, 12, 10, 27, true), -- 104 L_isSo
  (755, 12, 7, 9, true), -- 105 L_canCut
  (752, 12, 10, 28, true), -- 106 L_isHide
  (759, 12, 9, 22, true), -- 107 L_isPart
  (768, 12, 7, 20, true), -- 108 L_isRidden
  (100000, 12, 1, 15, true), -- 109 L_law
  (353, 0, 2, 2, false), -- 110 PAD
  (353, 0, 2, 2, false), -- 111 PAD
  (353, 0, 2, 2, false), -- 112 PAD
  (353, 0, 2, 2, false), -- 113 PAD
  (353, 0, 2, 2, false), -- 114 PAD
  (353, 0, 2, 2, false), -- 115 PAD
  (353, 0, 2, 2, false), -- 116 PAD
  (353, 0, 2, 2, false), -- 117 PAD
  (353, 0, 2, 2, false), -- 118 PAD
  (353, 0, 2, 2, false), -- 119 PAD
  (353, 0, 2, 2, false), -- 120 PAD
  (353, 0, 2, 2, false), -- 121 PAD
  (353, 0, 2, 2, false), -- 122 PAD
  (353, 0, 2, 2, false), -- 123 PAD
  (353, 0, 2, 2, false), -- 124 PAD
  (353, 0, 2, 2, false), -- 125 PAD
  (353, 0, 2, 2, false), -- 126 PAD
  (353, 0, 2, 2, false), -- 127 PAD
  (353, 0, 2, 2, false), -- 128 PAD
  (353, 0, 2, 2, false), -- 129 PAD
  (353, 0, 2, 2, false), -- 130 PAD
  (353, 0, 2, 2, false), -- 131 PAD
  (353, 0, 2, 2, false), -- 132 PAD
  (353, 0, 2, 2, false), -- 133 PAD
  (353, 0, 2, 2, false), -- 134 PAD
  (353, 0, 2, 2, false), -- 135 PAD
  (353, 0, 2, 2, false), -- 136 PAD
  (353, 0, 2, 2, false), -- 137 PAD
  (353, 0, 2, 2, false), -- 138 PAD
  (353, 0, 2, 2, false), -- 139 PAD
  (353, 0, 2, 2, false), -- 140 PAD
  (353, 0, 2, 2, false), -- 141 PAD
  (353, 0, 2, 2, false), -- 142 PAD
  (353, 0, 2, 2, false), -- 143 PAD
  (353, 0, 2, 2, false), -- 144 PAD
  (353, 0, 2, 2, false), -- 145 PAD
  (353, 0, 2, 2, false), -- 146 PAD
  (353, 0, 2, 2, false), -- 147 PAD
  (353, 0, 2, 2, false), -- 148 PAD
  (353, 0, 2, 2, false), -- 149 PAD
  (353, 0, 2, 2, false), -- 150 PAD
  (353, 0, 2, 2, false), -- 151 PAD
  (353, 0, 2, 2, false), -- 152 PAD
  (353, 0, 2, 2, false), -- 153 PAD
  (353, 0, 2, 2, false), -- 154 PAD
  (353, 0, 2, 2, false), -- 155 PAD
  (353, 0, 2, 2, false), -- 156 PAD
  (737, 11, 2, 3, true), -- 157 J9_floorDiv_7cf53
  (314, 11, 2, 2, true), -- 158 J9_max_7cf53
  (286, 11, 2, 2, true), -- 159 J9_min_7cf53
  (353, 0, 2, 2, false), -- 160 PAD
  (353, 0, 2, 2, false), -- 161 PAD
  (353, 0, 2, 2, false), -- 162 PAD
  (353, 0, 2, 2, false), -- 163 PAD
  (353, 0, 2, 2, false), -- 164 PAD
  (353, 0, 2, 2, false), -- 165 PAD
  (353, 0, 2, 2, false), -- 166 PAD
  (353, 0, 2, 2, false), -- 167 PAD
  (353, 0, 2, 2, false), -- 168 PAD
  (353, 0, 2, 2, false), -- 169 PAD
  (353, 0, 2, 2, false), -- 170 PAD
  (353, 0, 2, 2, false), -- 171 PAD
  (353, 0, 2, 2, false), -- 172 PAD
  (353, 0, 2, 2, false), -- 173 PAD
  (353, 0, 2, 2, false), -- 174 PAD
  (353, 0, 2, 2, false), -- 175 PAD
  (353, 0, 2, 2, false), -- 176 PAD
  (353, 0, 2, 2, false), -- 177 PAD
  (353, 0, 2, 2, false), -- 178 PAD
  (353, 0, 2, 2, false), -- 179 PAD
  (353, 0, 2, 2, false), -- 180 PAD
  (353, 0, 2, 2, false), -- 181 PAD
  (353, 0, 2, 2, false), -- 182 PAD
  (353, 0, 2, 2, false), -- 183 PAD
  (353, 0, 2, 2, false), -- 184 PAD
  (353, 0, 2, 2, false), -- 185 PAD
  (353, 0, 2, 2, false), -- 186 PAD
  (353, 0, 2, 2, false), -- 187 PAD
  (353, 0, 2, 2, false), -- 188 PAD
  (620, 2, 6, 6, false), -- 189 X1_makeSorer
  (628, 3, 2, 2, false)] -- 190 X4_settle
/-- field links: owner, index; class, field; by a nest mate; its place among the words -/
def xFL : List ((Nat × Nat) × (Nat × Nat × Bool × Nat)) := [
  ((4, 9), (4, 0, false, 55)),
  ((4, 15), (4, 1, false, 56)),
  ((4, 18), (4, 2, false, 57)),
  ((4, 22), (4, 3, false, 58)),
  ((4, 25), (4, 4, false, 59)),
  ((4, 62), (4, 5, false, 60)),
  ((2, 9), (2, 0, false, 83)),
  ((5, 26), (2, 0, true, 84)),
  ((6, 236), (2, 0, true, 85)),
  ((2, 15), (2, 1, false, 86)),
  ((6, 287), (2, 1, true, 87)),
  ((2, 18), (2, 2, false, 88)),
  ((3, 9), (3, 0, false, 103)),
  ((5, 18), (3, 0, true, 104)),
  ((6, 244), (3, 0, true, 105)),
  ((3, 15), (3, 1, false, 106)),
  ((5, 23), (3, 1, true, 107)),
  ((6, 245), (3, 1, true, 108)),
  ((5, 9), (5, 0, false, 120)),
  ((5, 15), (5, 1, false, 121)),
  ((6, 11), (6, 0, false, 127)),
  ((6, 53), (6, 1, false, 128)),
  ((6, 17), (6, 2, false, 129)),
  ((6, 89), (6, 3, false, 130)),
  ((6, 24), (6, 4, false, 131)),
  ((6, 30), (6, 5, false, 132)),
  ((6, 37), (6, 6, false, 133)),
  ((6, 45), (6, 7, false, 134)),
  ((6, 268), (6, 8, false, 135)),
  ((0, 9), (0, 0, false, 355)),
  ((0, 15), (0, 1, false, 356)),
  ((1, 9), (1, 0, false, 405)),
  ((6, 117), (1, 0, true, 406)),
  ((1, 15), (1, 1, false, 407)),
  ((6, 143), (1, 1, true, 408)),
  ((1, 18), (1, 2, false, 409)),
  ((6, 146), (1, 2, true, 410)),
  ((1, 24), (1, 3, false, 411)),
  ((6, 140), (1, 3, true, 412)),
  ((1, 28), (1, 4, false, 413)),
  ((1, 21), (1, 5, false, 414)),
  ((6, 109), (1, 5, true, 415)),
  ((1, 41), (1, 6, false, 416)),
  ((6, 149), (1, 6, true, 417)),
  ((1, 44), (1, 7, false, 418)),
  ((6, 152), (1, 7, true, 419)),
  ((6, 112), (1, 8, true, 420)),
  ((1, 53), (1, 8, false, 421)),
  ((1, 32), (1, 9, false, 422)),
  ((4, 37), (1, 9, true, 423)),
  ((6, 158), (1, 9, true, 424)),
  ((1, 35), (1, 10, false, 425)),
  ((4, 41), (1, 10, true, 426)),
  ((6, 161), (1, 10, true, 427)),
  ((1, 38), (1, 11, false, 428)),
  ((4, 48), (1, 11, true, 429)),
  ((6, 164), (1, 11, true, 430)),
  ((1, 60), (1, 12, false, 431)),
  ((6, 130), (1, 12, true, 432))]
/-- calls: owner, index; method, kind (0 static, 1 virtual, 2 a constructor); the places of methodLink, of instanceMethod or static, of selects -/
def xCL : List ((Nat × Nat) × (Nat × Nat × Nat × Nat × Nat)) := [
  ((12, 169), (49, 2, 39, 40, 0)),
  ((6, 23), (24, 2, 51, 52, 0)),
  ((6, 34), (10, 2, 79, 80, 0)),
  ((6, 41), (39, 2, 99, 100, 0)),
  ((6, 44), (40, 2, 116, 117, 0)),
  ((12, 71), (63, 1, 155, 156, 157)),
  ((6, 188), (90, 0, 159, 160, 0)),
  ((6, 71), (87, 0, 162, 163, 0)),
  ((6, 167), (89, 0, 233, 234, 0)),
  ((6, 191), (25, 1, 252, 253, 254)),
  ((4, 28), (32, 1, 256, 258, 1)),
  ((4, 31), (20, 1, 260, 261, 262)),
  ((4, 44), (31, 0, 264, 265, 0)),
  ((4, 51), (33, 1, 267, 269, 2)),
  ((4, 55), (34, 1, 271, 273, 3)),
  ((4, 74), (35, 1, 276, 278, 4)),
  ((4, 78), (36, 1, 280, 282, 5)),
  ((4, 81), (159, 0, 284, 285, 0)),
  ((4, 59), (37, 1, 287, 289, 6)),
  ((4, 86), (38, 1, 291, 293, 7)),
  ((6, 207), (26, 1, 295, 296, 297)),
  ((6, 219), (28, 1, 299, 300, 301)),
  ((6, 223), (30, 1, 303, 304, 305)),
  ((4, 65), (28, 1, 307, 300, 301)),
  ((4, 69), (19, 1, 308, 309, 310)),
  ((1, 47), (158, 0, 312, 313, 0)),
  ((6, 172), (159, 0, 315, 285, 0)),
  ((12, 170), (91, 0, 316, 317, 0)),
  ((12, 124), (92, 0, 320, 321, 0)),
  ((12, 8), (50, 1, 326, 327, 328)),
  ((6, 49), (88, 0, 330, 331, 0)),
  ((6, 64), (0, 2, 351, 352, 0)),
  ((12, 14), (51, 1, 362, 363, 364)),
  ((6, 67), (83, 1, 366, 368, 8)),
  ((6, 75), (1, 1, 371, 372, 373)),
  ((6, 79), (2, 1, 375, 376, 377)),
  ((12, 18), (52, 1, 379, 380, 381)),
  ((6, 83), (4, 1, 383, 384, 385)),
  ((0, 19), (8, 0, 387, 388, 0)),
  ((0, 23), (7, 1, 390, 392, 9)),
  ((6, 94), (3, 1, 397, 398, 399)),
  ((6, 98), (15, 2, 401, 402, 0)),
  ((12, 22), (53, 1, 460, 461, 462)),
  ((6, 101), (5, 1, 464, 465, 466)),
  ((0, 27), (9, 0, 468, 469, 0)),
  ((0, 31), (3, 1, 471, 398, 399)),
  ((0, 35), (6, 1, 472, 474, 10)),
  ((0, 39), (4, 1, 476, 384, 385)),
  ((12, 26), (54, 1, 477, 478, 479)),
  ((6, 105), (84, 1, 481, 483, 11)),
  ((12, 30), (55, 1, 487, 488, 489)),
  ((6, 120), (16, 1, 491, 492, 493)),
  ((6, 126), (20, 1, 496, 261, 262)),
  ((6, 136), (17, 1, 498, 499, 500)),
  ((12, 33), (57, 1, 502, 503, 504)),
  ((6, 155), (19, 1, 506, 309, 310)),
  ((12, 36), (58, 1, 507, 508, 509)),
  ((6, 177), (158, 0, 512, 313, 0)),
  ((6, 180), (18, 1, 513, 514, 515)),
  ((12, 40), (59, 1, 517, 518, 519)),
  ((6, 185), (22, 1, 522, 523, 524)),
  ((12, 43), (62, 1, 526, 527, 528)),
  ((6, 212), (79, 1, 531, 533, 12)),
  ((6, 293), (80, 1, 535, 537, 13)),
  ((6, 195), (29, 1, 539, 540, 541)),
  ((6, 296), (23, 1, 543, 544, 545)),
  ((1, 63), (22, 1, 547, 523, 524)),
  ((6, 216), (81, 1, 548, 550, 14)),
  ((12, 46), (64, 1, 552, 553, 554)),
  ((12, 49), (65, 1, 556, 557, 558)),
  ((6, 227), (21, 1, 560, 561, 562)),
  ((1, 56), (20, 1, 564, 261, 262)),
  ((12, 52), (66, 1, 566, 567, 568)),
  ((6, 232), (85, 1, 570, 572, 15)),
  ((12, 55), (67, 1, 575, 576, 577)),
  ((6, 240), (86, 1, 579, 581, 16)),
  ((12, 58), (68, 1, 584, 585, 586)),
  ((12, 61), (73, 1, 588, 589, 590)),
  ((6, 263), (11, 1, 592, 593, 594)),
  ((6, 273), (41, 1, 598, 599, 600)),
  ((6, 251), (43, 1, 602, 603, 604)),
  ((5, 35), (159, 0, 606, 285, 0)),
  ((5, 38), (47, 1, 607, 609, 17)),
  ((5, 48), (42, 1, 611, 612, 613)),
  ((5, 29), (158, 0, 615, 313, 0)),
  ((6, 257), (42, 1, 616, 612, 613)),
  ((6, 277), (189, 1, 617, 618, 619)),
  ((2, 27), (13, 1, 621, 623, 18)),
  ((6, 281), (190, 1, 625, 626, 627)),
  ((3, 18), (158, 0, 629, 313, 0)),
  ((12, 65), (74, 1, 630, 631, 632)),
  ((6, 284), (12, 1, 634, 635, 636)),
  ((2, 21), (158, 0, 638, 313, 0)),
  ((12, 68), (60, 1, 639, 640, 641)),
  ((12, 74), (61, 1, 643, 644, 645)),
  ((6, 204), (27, 1, 648, 649, 650)),
  ((12, 186), (104, 0, 655, 656, 0)),
  ((12, 112), (78, 1, 658, 659, 660)),
  ((12, 116), (103, 0, 662, 663, 0)),
  ((12, 99), (93, 0, 665, 666, 0)),
  ((12, 119), (56, 1, 669, 670, 671)),
  ((12, 103), (95, 0, 674, 675, 0)),
  ((12, 86), (94, 0, 677, 678, 0)),
  ((12, 96), (97, 0, 680, 681, 0)),
  ((12, 92), (96, 0, 683, 684, 0)),
  ((12, 128), (100, 0, 686, 687, 0)),
  ((12, 132), (101, 0, 689, 690, 0)),
  ((12, 136), (71, 1, 692, 693, 694)),
  ((6, 248), (82, 1, 696, 698, 19)),
  ((12, 138), (75, 1, 700, 701, 702)),
  ((12, 141), (102, 0, 704, 705, 0)),
  ((12, 145), (76, 1, 707, 708, 709)),
  ((6, 290), (14, 1, 711, 712, 713)),
  ((12, 148), (77, 1, 715, 716, 717)),
  ((12, 151), (69, 1, 719, 720, 721)),
  ((12, 154), (70, 1, 723, 724, 725)),
  ((6, 254), (44, 1, 727, 728, 729)),
  ((5, 42), (48, 1, 731, 733, 20)),
  ((5, 45), (157, 0, 735, 736, 0)),
  ((12, 157), (72, 1, 738, 739, 740)),
  ((6, 260), (45, 1, 742, 743, 744)),
  ((5, 51), (46, 1, 746, 748, 21)),
  ((12, 174), (106, 0, 750, 751, 0)),
  ((12, 160), (105, 0, 753, 754, 0)),
  ((12, 178), (107, 0, 757, 758, 0)),
  ((12, 165), (99, 0, 760, 761, 0)),
  ((12, 107), (98, 0, 763, 764, 0)),
  ((12, 182), (108, 0, 766, 767, 0))]
/-- Object.<init>, by owner and index -/
def xOL : List ((Nat × Nat) × Nat) := [
  ((6, 1), 42),
  ((4, 3), 54),
  ((2, 3), 82),
  ((3, 3), 102),
  ((5, 3), 119),
  ((0, 3), 354),
  ((1, 3), 404)]
/-- the constructors of exceptions, by owner and index: which -/
def xIL : List ((Nat × Nat) × Nat) := [
  ((6, 203), 10),
  ((6, 313), 8),
  ((6, 61), 9)]
/-- class links: owner, index; class; place -/
def xKL : List ((Nat × Nat) × (Nat × Nat)) := [
  ((12, 9), (6, 37)),
  ((6, 9), (0, 45)),
  ((6, 15), (1, 47)),
  ((6, 21), (4, 49)),
  ((6, 28), (2, 76)),
  ((6, 35), (3, 96)),
  ((6, 42), (5, 114)),
  ((6, 199), (10, 165)),
  ((6, 309), (8, 236)),
  ((12, 77), (10, 323)),
  ((12, 80), (8, 324)),
  ((12, 83), (9, 325)),
  ((6, 57), (9, 334))]
/-- String constants: owner, index; text -/
def xSL : List ((Nat × Nat) × String) := [
  ((6, 307), "there is no such number"),
  ((6, 314), "both are one"),
  ((6, 311), "out of range"),
  ((6, 59), "there are 8 hides"),
  ((6, 299), "there is no such hide"),
  ((6, 87), "it cannot be cut there"),
  ((6, 92), "there were 40 parts"),
  ((6, 301), "there is no such part"),
  ((6, 115), "it is in a seam"),
  ((6, 124), "it is too near to another hole"),
  ((6, 134), "it is in a seam, buckled, or broke"),
  ((6, 170), "it is no strap, is buckled, or broke"),
  ((6, 183), "it is not buckled"),
  ((6, 210), "there is no way"),
  ((6, 230), "one has 4 seams, is buckled, or broke"),
  ((6, 303), "there is no such horse"),
  ((6, 305), "there is no such saddle"),
  ((6, 266), "the horse is lame"),
  ((6, 271), "there were 60 rides"),
  ((6, 201), "place is below 0")]
/-- constants of the pools -/
def xIC : List ((Nat × Nat) × (Int32 × Nat)) := [
  ((4, 73), (1000000, 275)),
  ((12, 7), (2147483647, 319)),
  ((12, 79), (-3000000, 652)),
  ((12, 82), (-2000000, 653)),
  ((12, 85), (-1000000, 654)),
  ((12, 111), (524288, 668)),
  ((12, 123), (65536, 673)),
  ((12, 164), (32768, 756)),
  ((12, 173), (60000, 769))]
def xJC : List ((Nat × Nat) × (Int64 × Nat)) := [
]
/-! THE PURE MACHINE: a heap of cells 0, 1, .. (shape; ints, longs, references by cell and place), a frame (place, locals, stack), a step, a run. A reference k stands for the real cell base + k, '.retAddr 0' for the script. -/
abbrev xH : Type := (Nat → Nat × Nat) × (Nat × Nat) × (Nat → Nat → Int32) × (Nat → Nat → Int64) × (Nat → Nat → Option Nat)
abbrev xL : Type := List (Option Value)
abbrev xO : Type := Option Value ⊕ Nat
abbrev xR : Type := Option (xO × xH)
abbrev xA : Type := Option ((Nat × xL × List Value × xH) ⊕ ((xO × xH) ⊕ (Nat × List Value × Nat × List Value)))
abbrev xS : Type := Nat × (Nat → Int32)
def xup2 {α : Type} (f : Nat → Nat → α) (a k : Nat) (v : α) : Nat → Nat → α := fun b j => if b = a ∧ j = k then v else f b j
/-- a new cell, all 0 -/
def xnew (h : xH) (sh : Nat × Nat) (n : Nat) : xH := (va_up h.1 h.2.1.1 sh, (h.2.1.1 + 1, h.2.1.2 + n), va_up h.2.2.1 h.2.1.1 (fun _ => 0), va_up h.2.2.2.1 h.2.1.1 (fun _ => 0), va_up h.2.2.2.2 h.2.1.1 (fun _ => none))
def xgo (pc : Nat) (L : xL) (S : List Value) (h : xH) : xA := some (.inl (pc, L, S, h))
def xend (o : xO) (h : xH) : xA := some (.inr (.inl (o, h)))
def xcal (j : Nat) (as : List Value) (pc : Nat) (S : List Value) : xA := some (.inr (.inr (j, as, pc, S)))
def xjmp (pc : Nat) (off : Int) : Nat := ((pc : Int) + off).toNat
/-- methods by number -/
def xhd (j : Nat) : Cond := lw_tbl.getD (xMs.getD j (100000, 0, 0, 0, false)).1 (.code x code maxLocals ret)
def xmy (j : Nat) : MethodName := match xhd j with
  | .code y _ _ _ => y
  | .codeWith y _ _ _ _ => y
  | _ => ⟨"", "", ""⟩
def xmc (j : Nat) : ByteArray := match xhd j with
  | .code _ c _ _ => c
  | .codeWith _ c _ _ _ => c
  | _ => ⟨#[]⟩
def xmr (j : Nat) : Option FieldType := match xhd j with
  | .code _ _ _ r => r
  | .codeWith _ _ _ r _ => r
  | _ => none
def xmh (j : Nat) : List (Nat × Nat × Nat × Nat) := match xhd j with
  | .codeWith _ _ _ _ h => h
  | _ => []
def xmo (j : Nat) : Nat := (xMs.getD j (100000, 0, 0, 0, false)).2.1
def xmn (j : Nat) : Nat := (xMs.getD j (100000, 0, 0, 0, false)).2.2.1
def xml (j : Nat) : Nat := (xMs.getD j (100000, 0, 0, 0, false)).2.2.2.1
def xms (j : Nat) : Bool := (xMs.getD j (100000, 0, 0, 0, false)).2.2.2.2
/-- an instruction's length; 0 of what is not among these -/
def xlen : Instr → Nat
  | .iconst _ | .lconst _ | .aconst_null | .iload_n _ | .aload_n _ | .istore_n _ | .astore_n _ | .iadd | .isub | .imul | .idiv | .irem | .iand | .ior | .ixor | .ishl | .ishr | .i2l | .l2i | .land | .lor | .lshl | .lshr | .lcmp | .dup | .dup2 | .ireturn | .areturn | .return_ | .arraylength | .iaload | .iastore | .baload | .bastore | .laload | .lastore | .aaload | .aastore | .athrow => 1
  | .bipush _ | .ldc _ | .iload _ | .aload _ | .istore _ | .astore _ | .newarray _ => 2
  | .sipush _ | .ldc_w _ | .ldc2_w _ | .iinc _ _ | .if_icmp _ _ | .ifCond _ _ | .goto _ | .ifnull _ | .ifnonnull _ | .getfield _ | .putfield _ | .invokestatic _ | .invokevirtual _ | .invokespecial _ | .new _ | .anewarray _ => 3
  | _ => 0
def xsw : Instr → Bool
  | .tableswitch _ _ _ _ => true
  | _ => false
/-- the instruction at a place -/
def xft (j pc : Nat) : Option Instr := match decode (xmc j) pc with
  | .ok (ins, len) => if xlen ins = len ∨ xsw ins = true then some ins else none
  | .error _ => none
def xlk {β : Type} : List ((Nat × Nat) × β) → Nat → Nat → Option β
  | [], _, _ => none
  | (k, v) :: r, o, i => if k.1 = o ∧ k.2 = i then some v else xlk r o i
def xcat1 : Value → Bool
  | .long _ => false
  | .double _ => false
  | _ => true
/-- a call of method j, with the arguments on the stack -/
def xinv (j pc : Nat) (S : List Value) : xA :=
  if xmn j ≤ S.length ∧ ((S.drop (xmn j)).length ≤ 4 ∨ ((S.drop (xmn j)).length ≤ 8 ∧ (S.drop (xmn j)).all xcat1 = true)) then xcal j ((S.take (xmn j)).reverse) (pc + 3) (S.drop (xmn j)) else none
/-- what a receiver must be -/
def xrcv (j : Nat) (h : xH) : List Value → Bool
  | .ref a :: _ => decide (h.1 a = (1 + xmo j, 0))
  | _ => false
/-- a jump's two ways -/
def xbr (c : Prop) [Decidable c] (pc : Nat) (off : Int) (L : xL) (S : List Value) (h : xH) : xA :=
  if 0 ≤ (pc : Int) + off then xgo (if c then xjmp pc off else pc + 3) L S h else none
def xst (L : xL) (k : Nat) (v : Value) (pc : Nat) (S : List Value) (h : xH) : xA := if k < L.length then xgo pc (L.set k (some v)) S h else none
def xis01 (x : Int32) : Prop := x = 0 ∨ x = 1
/-- 'throw new E(text)' at pc -/
def xthr (d i pc e : Nat) (S : List Value) (h : xH) : xA :=
  if 6 ≤ d ∧ S.length ≤ 4 ∧ xmh i = [] ∧ xft i (pc + 3) = some .dup then
    match xft i (pc + 4) with
    | some (.ldc s) => match xlk xSL (xmo i) s, xft i (pc + 6), xft i (pc + 9) with
      | some _, some (.invokespecial c), some .athrow => if xlk xIL (xmo i) c = some e then xend (.inr e) (xnew h (1 + e, 0) 6) else none
      | _, _, _ => none
    | some (.ldc_w s) => match xlk xSL (xmo i) s, xft i (pc + 7), xft i (pc + 10) with
      | some _, some (.invokespecial c), some .athrow => if xlk xIL (xmo i) c = some e then xend (.inr e) (xnew h (1 + e, 0) 6) else none
      | _, _, _ => none
    | _ => none
  else none
def xact (sc : xS) (d i : Nat) (ins : Instr) (pc : Nat) (L : xL) (S : List Value) (h : xH) : xA := match ins with
  | .iconst n => xgo (pc + 1) L (.int (Int32.ofInt n) :: S) h
  | .bipush n => xgo (pc + 2) L (.int (Int8.ofInt n).toInt32 :: S) h
  | .sipush n => xgo (pc + 3) L (.int (Int16.ofInt n).toInt32 :: S) h
  | .lconst n => xgo (pc + 1) L (.long (Int64.ofNat n.val) :: S) h
  | .ldc k => match xlk xIC (xmo i) k with
    | some v => xgo (pc + 2) L (.int v.1 :: S) h
    | none => none
  | .ldc2_w k => match xlk xJC (xmo i) k with
    | some v => xgo (pc + 3) L (.long v.1 :: S) h
    | none => none
  | .aconst_null => xgo (pc + 1) L (.null :: S) h
  | .iload_n k => match L[k.val]? with
    | some (some (.int x)) => xgo (pc + 1) L (.int x :: S) h
    | _ => none
  | .iload k => match L[k]? with
    | some (some (.int x)) => xgo (pc + 2) L (.int x :: S) h
    | _ => none
  | .aload_n k => match L[k.val]? with
    | some (some (.ref a)) => xgo (pc + 1) L (.ref a :: S) h
    | some (some .null) => xgo (pc + 1) L (.null :: S) h
    | some (some (.retAddr z)) => xgo (pc + 1) L (.retAddr z :: S) h
    | _ => none
  | .aload k => match L[k]? with
    | some (some (.ref a)) => xgo (pc + 2) L (.ref a :: S) h
    | some (some .null) => xgo (pc + 2) L (.null :: S) h
    | some (some (.retAddr z)) => xgo (pc + 2) L (.retAddr z :: S) h
    | _ => none
  | .istore_n k => match S with
    | .int x :: S => xst L k.val (.int x) (pc + 1) S h
    | _ => none
  | .istore k => match S with
    | .int x :: S => xst L k (.int x) (pc + 2) S h
    | _ => none
  | .astore_n k => match S with
    | .ref a :: S => xst L k.val (.ref a) (pc + 1) S h
    | .null :: S => xst L k.val .null (pc + 1) S h
    | _ => none
  | .astore k => match S with
    | .ref a :: S => xst L k (.ref a) (pc + 2) S h
    | .null :: S => xst L k .null (pc + 2) S h
    | _ => none
  | .iinc k n => match L[k]? with
    | some (some (.int x)) => xst L k (.int (x + Int32.ofInt n)) (pc + 3) S h
    | _ => none
  | .iadd => match S with
    | .int y :: .int x :: S => xgo (pc + 1) L (.int (x + y) :: S) h
    | _ => none
  | .isub => match S with
    | .int y :: .int x :: S => xgo (pc + 1) L (.int (x - y) :: S) h
    | _ => none
  | .imul => match S with
    | .int y :: .int x :: S => xgo (pc + 1) L (.int (x * y) :: S) h
    | _ => none
  | .idiv => match S with
    | .int y :: .int x :: S => if y = 0 then none else xgo (pc + 1) L (.int (x / y) :: S) h
    | _ => none
  | .irem => match S with
    | .int y :: .int x :: S => if y = 0 then none else xgo (pc + 1) L (.int (x - x / y * y) :: S) h
    | _ => none
  | .iand => match S with
    | .int y :: .int x :: S => xgo (pc + 1) L (.int (x &&& y) :: S) h
    | _ => none
  | .ior => match S with
    | .int y :: .int x :: S => xgo (pc + 1) L (.int (x ||| y) :: S) h
    | _ => none
  | .ixor => match S with
    | .int y :: .int x :: S => xgo (pc + 1) L (.int (x ^^^ y) :: S) h
    | _ => none
  | .ishl => match S with
    | .int y :: .int x :: S => xgo (pc + 1) L (.int (x <<< (y &&& 31)) :: S) h
    | _ => none
  | .ishr => match S with
    | .int y :: .int x :: S => xgo (pc + 1) L (.int (x >>> (y &&& 31)) :: S) h
    | _ => none
  | .i2l => match S with
    | .int x :: S => xgo (pc + 1) L (.long x.toInt64 :: S) h
    | _ => none
  | .l2i => match S with
    | .long x :: S => xgo (pc + 1) L (.int x.toInt32 :: S) h
    | _ => none
  | .land => match S with
    | .long y :: .long x :: S => xgo (pc + 1) L (.long (x &&& y) :: S) h
    | _ => none
  | .lor => match S with
    | .long y :: .long x :: S => xgo (pc + 1) L (.long (x ||| y) :: S) h
    | _ => none
  | .lshl => match S with
    | .int y :: .long x :: S => xgo (pc + 1) L (.long (x <<< (y.toInt64 &&& 63)) :: S) h
    | _ => none
  | .lshr => match S with
    | .int y :: .long x :: S => xgo (pc + 1) L (.long (x >>> (y.toInt64 &&& 63)) :: S) h
    | _ => none
  | .lcmp => match S with
    | .long y :: .long x :: S => xgo (pc + 1) L (.int (lg_cmp x y) :: S) h
    | _ => none
  | .dup => match S with
    | v :: S => if xcat1 v = true then xgo (pc + 1) L (v :: v :: S) h else none
    | _ => none
  | .dup2 => match S with
    | v :: w :: S => if xcat1 v = true ∧ xcat1 w = true then xgo (pc + 1) L (v :: w :: v :: w :: S) h else none
    | _ => none
  | .if_icmp .eq off => match S with
    | .int y :: .int x :: S => xbr (x = y) pc off L S h
    | _ => none
  | .if_icmp .ne off => match S with
    | .int y :: .int x :: S => xbr (¬ x = y) pc off L S h
    | _ => none
  | .if_icmp .lt off => match S with
    | .int y :: .int x :: S => xbr (x < y) pc off L S h
    | _ => none
  | .if_icmp .ge off => match S with
    | .int y :: .int x :: S => xbr (y ≤ x) pc off L S h
    | _ => none
  | .if_icmp .gt off => match S with
    | .int y :: .int x :: S => xbr (y < x) pc off L S h
    | _ => none
  | .if_icmp .le off => match S with
    | .int y :: .int x :: S => xbr (x ≤ y) pc off L S h
    | _ => none
  | .ifCond .eq off => match S with
    | .int x :: S => xbr (x = 0) pc off L S h
    | _ => none
  | .ifCond .ne off => match S with
    | .int x :: S => xbr (¬ x = 0) pc off L S h
    | _ => none
  | .ifCond .lt off => match S with
    | .int x :: S => xbr (x < 0) pc off L S h
    | _ => none
  | .ifCond .ge off => match S with
    | .int x :: S => xbr (0 ≤ x) pc off L S h
    | _ => none
  | .ifCond .gt off => match S with
    | .int x :: S => xbr (0 < x) pc off L S h
    | _ => none
  | .ifCond .le off => match S with
    | .int x :: S => xbr (x ≤ 0) pc off L S h
    | _ => none
  | .goto off => if 0 ≤ (pc : Int) + off then xgo (xjmp pc off) L S h else none
  | .ifnull off => match S with
    | .null :: S => if 0 ≤ (pc : Int) + off then xgo (xjmp pc off) L S h else none
    | .ref _ :: S => xgo (pc + 3) L S h
    | _ => none
  | .ifnonnull off => match S with
    | .ref _ :: S => if 0 ≤ (pc : Int) + off then xgo (xjmp pc off) L S h else none
    | .null :: S => xgo (pc + 3) L S h
    | _ => none
  | .tableswitch dflt lo hi offs => match S with
    | .int x :: S =>
      if x.toInt < lo ∨ hi < x.toInt then (if 0 ≤ (pc : Int) + dflt then xgo (xjmp pc dflt) L S h else none)
      else match offs[(x.toInt - lo).toNat]? with
        | some off => if 0 ≤ (pc : Int) + off then xgo (xjmp pc off) L S h else none
        | none => none
    | _ => none
  | .ireturn => match S with
    | [.int x] => if xmr i = some .int then xend (.inl (some (.int x))) h
      else if xmr i = some .boolean ∧ (x = 0 ∨ x = 1) then xend (.inl (some (.int x))) h else none
    | _ => none
  | .areturn => match S with
    | [.ref a] => match xmr i with
      | some (.object _) => xend (.inl (some (.ref a))) h
      | _ => none
    | [.null] => match xmr i with
      | some (.object _) => xend (.inl (some .null)) h
      | _ => none
    | _ => none
  | .return_ => match S with
    | [] => if xmr i = none then xend (.inl none) h else none
    | _ => none
  | .getfield idx => match S with
    | .ref a :: S => match xlk xFL (xmo i) idx with
      | some (c, k, _, _) => if h.1 a = (1 + c, 0) then xgo (pc + 3) L ((if xfk c k = 2 then va_rf (h.2.2.2.2 a k) else .int (h.2.2.1 a k)) :: S) h else none
      | none => none
    | _ => none
  | .putfield idx => match S with
    | .int x :: .ref a :: S => match xlk xFL (xmo i) idx with
      | some (c, k, n, _) => if h.1 a = (1 + c, 0) ∧ (xfk c k = 0 ∨ (xfk c k = 1 ∧ (x = 0 ∨ x = 1))) ∧ ((xT c k).2.2.2 = false ∨ ((xmy i).name = "<init>" ∧ xmo i = c ∧ n = false)) then xgo (pc + 3) L S (h.1, h.2.1, xup2 h.2.2.1 a k x, h.2.2.2.1, h.2.2.2.2) else none
      | none => none
    | .ref q :: .ref a :: S => match xlk xFL (xmo i) idx with
      | some (c, k, n, _) => if h.1 a = (1 + c, 0) ∧ xfk c k = 2 ∧ ((xT c k).2.2.2 = false ∨ ((xmy i).name = "<init>" ∧ xmo i = c ∧ n = false)) then xgo (pc + 3) L S (h.1, h.2.1, h.2.2.1, h.2.2.2.1, xup2 h.2.2.2.2 a k (some q)) else none
      | none => none
    | _ => none
  | .invokestatic idx => match xlk xCL (xmo i) idx with
    | some (j, 0, _) => xinv j pc S
    | _ => none
  | .invokevirtual idx => match xlk xCL (xmo i) idx with
    | some (j, 1, _) => if xrcv j h (S.drop (xmn j - 1)) = true then xinv j pc S else none
    | _ => none
  | .invokespecial idx => match xlk xCL (xmo i) idx with
    | some (j, 2, _) => if xrcv j h (S.drop (xmn j - 1)) = true then xinv j pc S else none
    | some _ => none
    | none => match xlk xOL (xmo i) idx, S with
      | some _, .ref _ :: S => if 1 ≤ d ∧ S.length ≤ 4 then xgo (pc + 3) L S h else none
      | _, _ => none
  | .new idx => match xlk xKL (xmo i) idx with
    | some (c, _) => if c < 8 then xgo (pc + 3) L (.ref h.2.1.1 :: S) (xnew h (1 + c, 0) (xN c)) else if c < 11 then xthr d i pc c S h else none
    | none => none
  | .newarray ty => match S with
    | .int x :: S => if x < 0 ∨ 1000 < x.toNatClampNeg then none else match ty with
      | .int => xgo (pc + 2) L (.ref h.2.1.1 :: S) (xnew h (32, x.toNatClampNeg) x.toNatClampNeg)
      | .boolean => xgo (pc + 2) L (.ref h.2.1.1 :: S) (xnew h (33, x.toNatClampNeg) x.toNatClampNeg)
      | _ => none
    | _ => none
  | .anewarray idx => match S with
    | .int x :: S => match xlk xKL (xmo i) idx with
      | some (c, _) => if x < 0 ∨ 1000 < x.toNatClampNeg ∨ 4 ≤ c then none else xgo (pc + 3) L (.ref h.2.1.1 :: S) (xnew h (40 + c, x.toNatClampNeg) x.toNatClampNeg)
      | none => none
    | _ => none
  | .arraylength => match S with
    | .ref a :: S => if (32 ≤ (h.1 a).1 ∧ (h.1 a).1 < 35) ∨ (40 ≤ (h.1 a).1 ∧ (h.1 a).1 < 44) then xgo (pc + 1) L (.int (Int32.ofNat (h.1 a).2) :: S) h else none
    | .retAddr _ :: S => xgo (pc + 1) L (.int (Int32.ofNat sc.1) :: S) h
    | _ => none
  | .iaload => match S with
    | .int x :: .ref a :: S => if (h.1 a).1 = 32 ∧ ¬ x < 0 ∧ x.toNatClampNeg < (h.1 a).2 then xgo (pc + 1) L (.int (h.2.2.1 a x.toNatClampNeg) :: S) h else none
    | .int x :: .retAddr _ :: S => if ¬ x < 0 ∧ x.toNatClampNeg < sc.1 then xgo (pc + 1) L (.int (sc.2 x.toNatClampNeg) :: S) h else none
    | _ => none
  | .baload => match S with
    | .int x :: .ref a :: S => if (h.1 a).1 = 33 ∧ ¬ x < 0 ∧ x.toNatClampNeg < (h.1 a).2 then xgo (pc + 1) L (.int (h.2.2.1 a x.toNatClampNeg) :: S) h else none
    | _ => none
  | .aaload => match S with
    | .int x :: .ref a :: S => if 40 ≤ (h.1 a).1 ∧ (h.1 a).1 < 44 ∧ ¬ x < 0 ∧ x.toNatClampNeg < (h.1 a).2 then xgo (pc + 1) L (va_rf (h.2.2.2.2 a x.toNatClampNeg) :: S) h else none
    | _ => none
  | .iastore => match S with
    | .int v :: .int x :: .ref a :: S => if (h.1 a).1 = 32 ∧ ¬ x < 0 ∧ x.toNatClampNeg < (h.1 a).2 then xgo (pc + 1) L S (h.1, h.2.1, xup2 h.2.2.1 a x.toNatClampNeg v, h.2.2.2.1, h.2.2.2.2) else none
    | _ => none
  | .bastore => match S with
    | .int v :: .int x :: .ref a :: S => if (h.1 a).1 = 33 ∧ ¬ x < 0 ∧ x.toNatClampNeg < (h.1 a).2 ∧ (v = 0 ∨ v = 1) then xgo (pc + 1) L S (h.1, h.2.1, xup2 h.2.2.1 a x.toNatClampNeg v, h.2.2.2.1, h.2.2.2.2) else none
    | _ => none
  | .aastore => match S with
    | .ref q :: .int x :: .ref a :: S => if 40 ≤ (h.1 a).1 ∧ (h.1 a).1 < 44 ∧ ¬ x < 0 ∧ x.toNatClampNeg < (h.1 a).2 ∧ q < h.2.1.1 ∧ h.1 q = ((h.1 a).1 - 39, 0) then xgo (pc + 1) L S (h.1, h.2.1, h.2.2.1, h.2.2.2.1, xup2 h.2.2.2.2 a x.toNatClampNeg (some q)) else none
    | _ => none
  | _ => none
/-- where a thrown e is caught: behind the handler's astore; which local that takes -/
def xhan (i pc e : Nat) : List (Nat × Nat × Nat × Nat) → Option (Nat × Nat)
  | [] => none
  | (a, b, t, c) :: r => if a ≤ pc ∧ pc < b then (match xlk xKL (xmo i) c with
      | some (e', _) => if e' = e then (match xft i t with
          | some (.astore_n k) => some (t + 1, k.val)
          | some (.astore k) => some (t + 2, k)
          | _ => none) else if 8 ≤ e' ∧ e' < 11 then xhan i pc e r else none
      | none => none) else none
abbrev xC1 : Type := Nat → List Value → xH → xR
abbrev xK1 : Type := Nat → xL → List Value → xH → xR
/-- behind a call -/
def xret (i : Nat) (k : xK1) (pc pc' : Nat) (L : xL) (S : List Value) : xR → xR
  | none => none
  | some (.inl none, h) => k pc' L S h
  | some (.inl (some v), h) => k pc' L (v :: S) h
  | some (.inr e, h) => if xmh i = [] then some (.inr e, h) else match xhan i pc e (xmh i) with
    | some (t, n) => if n < L.length then k t (L.set n none) [] h else none
    | none => none
def xdo (i : Nat) (call : xC1) (k : xK1) (pc : Nat) (L : xL) (h : xH) : xA → xR
  | none => none
  | some (.inl (pc', L', S', h')) => k pc' L' S' h'
  | some (.inr (.inl r)) => some r
  | some (.inr (.inr (j, as, pc', S'))) => xret i k pc pc' L S' (call j as h)
def xrun (sc : xS) (d i : Nat) (call : xC1) : Nat → xK1
  | 0 => fun _ _ _ _ => none
  | F + 1 => fun pc L S h => match xft i pc with
    | none => none
    | some ins => xdo i call (xrun sc d i call F) pc L h (xact sc d i ins pc L S h)
def xent (j : Nat) (as : List Value) : xL := as.map some ++ List.replicate (xml j - as.length) none
def xcall (sc : xS) : Nat → Nat → xC1
  | 0, _ => fun _ _ _ => none
  | d + 1, F => fun j as h => if j < xMs.length ∧ as.length = xmn j ∧ as.all xcat1 = true ∧ as.length ≤ xml j then xrun sc d j (xcall sc d F) F 0 (xent j as) [] h else none
/-! more fuel -/
theorem xret_mono {i : Nat} {k k' : xK1} {pc pc' : Nat} {L : xL} {S : List Value} {r r' : xR} (hk : ∀ pc L S h o, k pc L S h = some o → k' pc L S h = some o) (hr : ∀ o, r = some o → r' = some o) {o : xO × xH} (h : xret i k pc pc' L S r = some o) : xret i k' pc pc' L S r' = some o := by
  cases r with
  | none => cases h
  | some q =>
    rw [hr q rfl]
    obtain ⟨q1, q2⟩ := q
    cases q1 with
    | inl v => cases v with
      | none => exact hk _ _ _ _ _ h
      | some v => exact hk _ _ _ _ _ h
    | inr e =>
      simp only [xret] at h ⊢
      split
      · next h1 => rw [if_pos h1] at h; exact h
      · next h1 =>
        rw [if_neg h1] at h
        revert h
        cases xhan i pc e (xmh i) with
        | none => intro h; cases h
        | some q =>
          intro h
          simp only at h ⊢
          split
          · next h2 => rw [if_pos h2] at h; exact hk _ _ _ _ _ h
          · next h2 => rw [if_neg h2] at h; cases h
theorem xdo_mono {i : Nat} {c c' : xC1} {k k' : xK1} {pc : Nat} {L : xL} {h0 : xH} {A : xA} (hk : ∀ pc L S h o, k pc L S h = some o → k' pc L S h = some o) (hc : ∀ j as h o, c j as h = some o → c' j as h = some o) {o : xO × xH} (h : xdo i c k pc L h0 A = some o) : xdo i c' k' pc L h0 A = some o := by
  match A, h with
  | some (.inl (pc', L', S', h')), h => exact hk _ _ _ _ _ h
  | some (.inr (.inl r)), h => exact h
  | some (.inr (.inr (j, as, pc', S'))), h => exact xret_mono hk (fun o h => hc _ _ _ _ h) h
theorem xrun_mono {sc : xS} {d i : Nat} {c c' : xC1} (hc : ∀ j as h o, c j as h = some o → c' j as h = some o) : ∀ (F F' : Nat), F ≤ F' → ∀ pc L S h o, xrun sc d i c F pc L S h = some o → xrun sc d i c' F' pc L S h = some o
  | 0, _, _, _, _, _, _, _, h => by cases h
  | F + 1, 0, hF, _, _, _, _, _, _ => by omega
  | F + 1, F' + 1, hF, pc, L, S, h, o, hh => by
    simp only [xrun] at hh ⊢
    cases hx : xft i pc with
    | none => rw [hx] at hh; cases hh
    | some ins =>
      rw [hx] at hh
      exact xdo_mono (fun pc L S h o q => xrun_mono hc F F' (by omega) pc L S h o q) hc hh
theorem xcall_0 {sc : xS} {F j : Nat} {as : List Value} {h : xH} : xcall sc 0 F j as h = none := by unfold xcall; rfl
theorem xcall_s {sc : xS} {d F j : Nat} {as : List Value} {h : xH} : xcall sc (d + 1) F j as h = if j < xMs.length ∧ as.length = xmn j ∧ as.all xcat1 = true ∧ as.length ≤ xml j then xrun sc d j (xcall sc d F) F 0 (xent j as) [] h else none := by
  conv => lhs; unfold xcall
theorem xcall_mono {sc : xS} (d : Nat) : ∀ (F F' : Nat), F ≤ F' → ∀ j as h o, xcall sc d F j as h = some o → xcall sc d F' j as h = some o := by
  induction d with
  | zero =>
    intro F F' hF j as h o hh
    rw [xcall_0] at hh
    cases hh
  | succ d ih =>
    intro F F' hF j as h o hh
    rw [xcall_s] at hh ⊢
    split
    · next h1 =>
      rw [if_pos h1] at hh
      exact xrun_mono (fun j as h o q => ih F F' hF j as h o q) F F' hF _ _ _ _ _ hh
    · next h1 => rw [if_neg h1] at hh; cases hh
/-! the limit -/
noncomputable def X (sc : xS) (d j : Nat) (as : List Value) (h : xH) : xR :=
  @dite _ (∃ q : Nat × (xO × xH), xcall sc d q.1 j as h = some q.2) (Classical.propDecidable _) (fun p => some (Classical.choose p).2) (fun _ => none)
noncomputable def XR (sc : xS) (d i : Nat) : xK1 := fun pc L S h =>
  @dite _ (∃ q : Nat × (xO × xH), xrun sc d i (xcall sc d q.1) q.1 pc L S h = some q.2) (Classical.propDecidable _) (fun p => some (Classical.choose p).2) (fun _ => none)
theorem X_iff {sc : xS} {d j : Nat} {as : List Value} {h : xH} {o : xO × xH} : X sc d j as h = some o ↔ ∃ F, xcall sc d F j as h = some o := by
  unfold X
  by_cases p : ∃ q : Nat × (xO × xH), xcall sc d q.1 j as h = some q.2
  · rw [dif_pos p]
    constructor
    · intro e
      cases e
      exact ⟨_, Classical.choose_spec p⟩
    · rintro ⟨F, hF⟩
      have h1 := xcall_mono d _ (max F (Classical.choose p).1) (Nat.le_max_left _ _) j as h o hF
      have h2 := xcall_mono d _ (max F (Classical.choose p).1) (Nat.le_max_right _ _) j as h _ (Classical.choose_spec p)
      exact h2.symm.trans h1
  · rw [dif_neg p]
    constructor
    · intro e; cases e
    · rintro ⟨F, hF⟩
      exact absurd ⟨(F, o), hF⟩ p
theorem XR_iff {sc : xS} {d i pc : Nat} {L : xL} {S : List Value} {h : xH} {o : xO × xH} : XR sc d i pc L S h = some o ↔ ∃ F, xrun sc d i (xcall sc d F) F pc L S h = some o := by
  have mono : ∀ F F', F ≤ F' → ∀ o, xrun sc d i (xcall sc d F) F pc L S h = some o → xrun sc d i (xcall sc d F') F' pc L S h = some o :=
    fun F F' hF o q => xrun_mono (fun j as h o q => xcall_mono d F F' hF j as h o q) F F' hF pc L S h o q
  unfold XR
  by_cases p : ∃ q : Nat × (xO × xH), xrun sc d i (xcall sc d q.1) q.1 pc L S h = some q.2
  · rw [dif_pos p]
    constructor
    · intro e
      cases e
      exact ⟨_, Classical.choose_spec p⟩
    · rintro ⟨F, hF⟩
      have h1 := mono _ (max F (Classical.choose p).1) (Nat.le_max_left _ _) o hF
      have h2 := mono _ (max F (Classical.choose p).1) (Nat.le_max_right _ _) _ (Classical.choose_spec p)
      exact h2.symm.trans h1
  · rw [dif_neg p]
    constructor
    · intro e; cases e
    · rintro ⟨F, hF⟩
      exact absurd ⟨(F, o), hF⟩ p
theorem xO_ext {α : Type} {a b : Option α} (h : ∀ o, a = some o ↔ b = some o) : a = b := by
  cases a with
  | none =>
    cases b with
    | none => rfl
    | some y => exact ((h y).mpr rfl)
  | some x => exact ((h x).mp rfl).symm
theorem xdo_fin {sc : xS} {d i pc : Nat} {L : xL} {h0 : xH} {A : xA} {o : xO × xH} (h : xdo i (X sc d) (XR sc d i) pc L h0 A = some o) : ∃ F, xdo i (xcall sc d F) (xrun sc d i (xcall sc d F) F) pc L h0 A = some o := by
  match A, h with
  | some (.inl (pc', L', S', h')), h => exact XR_iff.mp h
  | some (.inr (.inl r)), h => exact ⟨0, h⟩
  | some (.inr (.inr (j, as, pc', S'))), h =>
    simp only [xdo] at h ⊢
    cases hc : X sc d j as h0 with
    | none => rw [hc] at h; cases h
    | some q =>
      rw [hc] at h
      obtain ⟨F1, h1⟩ := X_iff.mp hc
      have key : ∃ F2, xret i (xrun sc d i (xcall sc d F2) F2) pc pc' L S' (some q) = some o := by
        obtain ⟨q1, q2⟩ := q
        cases q1 with
        | inl v => cases v with
          | none => exact XR_iff.mp h
          | some v => exact XR_iff.mp h
        | inr e =>
          simp only [xret] at h ⊢
          split at h
          · next hh => exact ⟨0, by rw [if_pos hh]; exact h⟩
          · next hh =>
            simp only [if_neg hh]
            revert h
            cases xhan i pc e (xmh i) with
            | none => intro h; cases h
            | some z =>
              intro h
              simp only at h ⊢
              split at h
              · next h2 => simp only [if_pos h2]; exact XR_iff.mp h
              · cases h
      obtain ⟨F2, h2⟩ := key
      refine ⟨max F1 F2, xret_mono (fun pc L S h o q => xrun_mono (fun j as h o q => xcall_mono d F2 _ (Nat.le_max_right _ _) j as h o q) F2 _ (Nat.le_max_right _ _) pc L S h o q) (fun o ho => ?_) h2⟩
      cases ho
      exact xcall_mono d F1 _ (Nat.le_max_left _ _) j as h0 q h1
/-- one step -/
theorem XR_eq {sc : xS} {d i pc : Nat} {L : xL} {S : List Value} {h : xH} {ins : Instr} (hf : xft i pc = some ins) : XR sc d i pc L S h = xdo i (X sc d) (XR sc d i) pc L h (xact sc d i ins pc L S h) := by
  refine xO_ext fun o => ⟨fun h1 => ?_, fun h1 => ?_⟩
  · obtain ⟨F, hF⟩ := XR_iff.mp h1
    cases F with
    | zero => cases hF
    | succ F =>
      simp only [xrun, hf] at hF
      exact xdo_mono (fun pc L S h o q => XR_iff.mpr ⟨F + 1, xrun_mono (fun _ _ _ _ q => q) F (F + 1) (Nat.le_succ F) pc L S h o q⟩) (fun j as h o q => X_iff.mpr ⟨F + 1, q⟩) hF
  · obtain ⟨F, hF⟩ := xdo_fin h1
    refine XR_iff.mpr ⟨F + 1, ?_⟩
    simp only [xrun, hf]
    exact xdo_mono (fun pc L S h o q => xrun_mono (fun j as h o q => xcall_mono d F _ (Nat.le_succ F) j as h o q) F F (Nat.le_refl F) pc L S h o q) (fun j as h o q => xcall_mono d F _ (Nat.le_succ F) j as h o q) hF
/-- a call -/
theorem X_eq {sc : xS} {d j : Nat} {as : List Value} {h : xH} (hj : j < xMs.length ∧ as.length = xmn j ∧ as.all xcat1 = true ∧ as.length ≤ xml j) : X sc (d + 1) j as h = XR sc d j 0 (xent j as) [] h := by
  refine xO_ext fun o => ?_
  rw [X_iff, XR_iff]
  simp only [xcall_s, if_pos hj]
