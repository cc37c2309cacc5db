/-! tables of the system, written by wip/whole/gen.py out of the claim's names and words: classes, fields, methods, links -/
def xC : Nat → String := fun c => match c with
  | 0 => "Saddletree$Hide"
  | 1 => "Saddletree$Part"
  | 2 => "Saddletree$Horse"
  | 3 => "Saddletree$Saddle"
  | 4 => "Saddletree$Route"
  | 5 => "Saddletree$Seat"
  | 6 => "Saddletree"
  | 7 => "SaddletreeModel"
  | 8 => "java/lang/IllegalArgumentException"
  | 9 => "java/lang/IllegalStateException"
  | 10 => "java/lang/IndexOutOfBoundsException"
  | 11 => "java/lang/Math"
  | _ => "SaddletreeLaw"
def xT0 : u_T := fun k => match k with
  | 0 => ("Saddletree$Hide", "thickness", "I", true)
  | _ => ("Saddletree$Hide", "gone", "[Z", true)
def xY0 : Nat → FieldType := fun k => match k with
  | 0 => .int
  | _ => .array .boolean
def xT1 : u_T := fun k => match k with
  | 0 => ("Saddletree$Part", "columns", "I", true)
  | 1 => ("Saddletree$Part", "rows", "I", true)
  | 2 => ("Saddletree$Part", "firstRow", "I", true)
  | 3 => ("Saddletree$Part", "isStrap", "Z", true)
  | 4 => ("Saddletree$Part", "holes", "[Z", true)
  | 5 => ("Saddletree$Part", "thickness", "I", false)
  | 6 => ("Saddletree$Part", "holeCount", "I", false)
  | 7 => ("Saddletree$Part", "wear", "I", false)
  | 8 => ("Saddletree$Part", "seams", "I", false)
  | 9 => ("Saddletree$Part", "lowerRing", "I", false)
  | 10 => ("Saddletree$Part", "upperRing", "I", false)
  | 11 => ("Saddletree$Part", "length", "I", false)
  | _ => ("Saddletree$Part", "broke", "Z", false)
def xY1 : Nat → FieldType := fun k => match k with
  | 0 => .int
  | 1 => .int
  | 2 => .int
  | 3 => .boolean
  | 4 => .array .boolean
  | 5 => .int
  | 6 => .int
  | 7 => .int
  | 8 => .int
  | 9 => .int
  | 10 => .int
  | 11 => .int
  | _ => .boolean
def xT2 : u_T := fun k => match k with
  | 0 => ("Saddletree$Horse", "heights", "[I", true)
  | 1 => ("Saddletree$Horse", "sores", "[I", true)
  | _ => ("Saddletree$Horse", "blames", "[I", true)
def xY2 : Nat → FieldType := fun k => match k with
  | 0 => .array .int
  | 1 => .array .int
  | _ => .array .int
def xT3 : u_T := fun k => match k with
  | 0 => ("Saddletree$Saddle", "heights", "[I", true)
  | _ => ("Saddletree$Saddle", "flocks", "[I", true)
def xY3 : Nat → FieldType := fun k => match k with
  | 0 => .array .int
  | _ => .array .int
def xT4 : u_T := fun k => match k with
  | 0 => ("Saddletree$Route", "shortest", "[I", true)
  | 1 => ("Saddletree$Route", "sharing", "[I", true)
  | 2 => ("Saddletree$Route", "isTaken", "[Z", true)
  | 3 => ("Saddletree$Route", "toGoal", "[I", true)
  | 4 => ("Saddletree$Route", "rings", "[I", true)
  | _ => ("Saddletree$Route", "ringCount", "I", false)
def xY4 : Nat → FieldType := fun k => match k with
  | 0 => .array .int
  | 1 => .array .int
  | 2 => .array .boolean
  | 3 => .array .int
  | 4 => .array .int
  | _ => .int
def xT5 : u_T := fun k => match k with
  | 0 => ("Saddletree$Seat", "gaps", "[I", true)
  | _ => ("Saddletree$Seat", "sorted", "[I", true)
def xY5 : Nat → FieldType := fun k => match k with
  | 0 => .array .int
  | _ => .array .int
def xT6 : u_T := fun k => match k with
  | 0 => ("Saddletree", "hides", "[LSaddletree$Hide;", true)
  | 1 => ("Saddletree", "hideCount", "I", false)
  | 2 => ("Saddletree", "parts", "[LSaddletree$Part;", true)
  | 3 => ("Saddletree", "partCount", "I", false)
  | 4 => ("Saddletree", "route", "LSaddletree$Route;", true)
  | 5 => ("Saddletree", "horses", "[LSaddletree$Horse;", true)
  | 6 => ("Saddletree", "saddles", "[LSaddletree$Saddle;", true)
  | 7 => ("Saddletree", "seat", "LSaddletree$Seat;", true)
  | _ => ("Saddletree", "rideCount", "I", false)
def xY6 : Nat → FieldType := fun k => match k with
  | 0 => .array (.object "Saddletree$Hide")
  | 1 => .int
  | 2 => .array (.object "Saddletree$Part")
  | 3 => .int
  | 4 => .object "Saddletree$Route"
  | 5 => .array (.object "Saddletree$Horse")
  | 6 => .array (.object "Saddletree$Saddle")
  | 7 => .object "Saddletree$Seat"
  | _ => .int
def xT7 : u_T := fun k => match k with
  | 0 => ("SaddletreeModel", "hides", "I", false)
  | 1 => ("SaddletreeModel", "thick", "[I", true)
  | 2 => ("SaddletreeModel", "bad", "[I", true)
  | 3 => ("SaddletreeModel", "parts", "I", false)
  | 4 => ("SaddletreeModel", "along", "[I", true)
  | 5 => ("SaddletreeModel", "wide", "[I", true)
  | 6 => ("SaddletreeModel", "thickness", "[I", true)
  | 7 => ("SaddletreeModel", "firstRow", "[I", true)
  | 8 => ("SaddletreeModel", "isStrap", "[Z", true)
  | 9 => ("SaddletreeModel", "holes", "[J", true)
  | 10 => ("SaddletreeModel", "wear", "[I", true)
  | 11 => ("SaddletreeModel", "seams", "[I", true)
  | 12 => ("SaddletreeModel", "isBroken", "[Z", true)
  | 13 => ("SaddletreeModel", "one", "[I", true)
  | 14 => ("SaddletreeModel", "other", "[I", true)
  | 15 => ("SaddletreeModel", "length", "[I", true)
  | 16 => ("SaddletreeModel", "far", "[I", true)
  | 17 => ("SaddletreeModel", "rings", "I", false)
  | 18 => ("SaddletreeModel", "ring", "[I", true)
  | 19 => ("SaddletreeModel", "borne", "[I", true)
  | 20 => ("SaddletreeModel", "back", "[I", true)
  | 21 => ("SaddletreeModel", "tree", "[I", true)
  | 22 => ("SaddletreeModel", "flock", "[I", true)
  | 23 => ("SaddletreeModel", "sore", "[I", true)
  | 24 => ("SaddletreeModel", "rides", "I", false)
  | 25 => ("SaddletreeModel", "bySaddle", "[I", true)
  | 26 => ("SaddletreeModel", "byRider", "[I", true)
  | 27 => ("SaddletreeModel", "byGait", "[I", true)
  | _ => ("SaddletreeModel", "thrown", "I", false)
def xY7 : Nat → FieldType := fun k => match k with
  | 0 => .int
  | 1 => .array .int
  | 2 => .array .int
  | 3 => .int
  | 4 => .array .int
  | 5 => .array .int
  | 6 => .array .int
  | 7 => .array .int
  | 8 => .array .boolean
  | 9 => .array .long
  | 10 => .array .int
  | 11 => .array .int
  | 12 => .array .boolean
  | 13 => .array .int
  | 14 => .array .int
  | 15 => .array .int
  | 16 => .array .int
  | 17 => .int
  | 18 => .array .int
  | 19 => .array .int
  | 20 => .array .int
  | 21 => .array .int
  | 22 => .array .int
  | 23 => .array .int
  | 24 => .int
  | 25 => .array .int
  | 26 => .array .int
  | 27 => .array .int
  | _ => .int
def xT : Nat → u_T := fun c => match c with
  | 0 => xT0
  | 1 => xT1
  | 2 => xT2
  | 3 => xT3
  | 4 => xT4
  | 5 => xT5
  | 6 => xT6
  | 7 => xT7
  | _ => fun _ => ("", "", "", false)
def xY : Nat → Nat → FieldType := fun c => match c with
  | 0 => xY0
  | 1 => xY1
  | 2 => xY2
  | 3 => xY3
  | 4 => xY4
  | 5 => xY5
  | 6 => xY6
  | 7 => xY7
  | _ => fun _ => .int
def xN : Nat → Nat := fun c => match c with
  | 0 => 2
  | 1 => 13
  | 2 => 3
  | 3 => 2
  | 4 => 6
  | 5 => 2
  | 6 => 9
  | 7 => 29
  | _ => 0
/-- a field: 0 an int, 1 a boolean, 2 a reference -/
def xfk (c k : Nat) : Nat := match xY c k with | .int => 0 | .boolean => 1 | _ => 2
/-- methods: the place of the word that holds the code, the owner, how many arguments, how many locals, whether static -/
def xMs : List (Nat × Nat × Nat × Nat × Bool) := [
  (285, 0, 2, 2, false), -- 0 X0_init
  (329, 0, 5, 7, false), -- 1 X0_spoil
  (333, 0, 1, 6, false), -- 2 X0_squaresLeft
  (358, 0, 3, 3, false), -- 3 X0_thinnest
  (344, 0, 6, 6, false), -- 4 X0_canGive
  (428, 0, 5, 11, false), -- 5 X0_leastWorth
  (436, 0, 5, 6, false), -- 6 X0_firstColumn
  (351, 0, 5, 7, false), -- 7 X0_isWhole
  (347, 0, 2, 2, true), -- 8 X0_reachesBelly
  (431, 0, 3, 6, true), -- 9 X0_worth
  (108, 2, 1, 1, false), -- 10 X1_init
  (766, 2, 1, 5, false), -- 11 X1_isLame
  (792, 2, 2, 3, false), -- 12 X1_heal
  (776, 2, 5, 5, false), -- 13 X1_blame
  (811, 2, 4, 4, false), -- 14 X1_blameOf
  (361, 1, 6, 6, false), -- 15 X2_init
  (461, 1, 2, 2, false), -- 16 X2_hasHoleNear
  (471, 1, 2, 4, false), -- 17 X2_addHole
  (512, 1, 2, 4, false), -- 18 X2_placeOf
  (489, 1, 1, 3, false), -- 19 X2_strength
  (466, 1, 1, 1, false), -- 20 X2_isBuckled
  (652, 1, 1, 1, false), -- 21 X2_canBeSewn
  (524, 1, 1, 1, false), -- 22 X2_letGo
  (616, 1, 1, 1, false), -- 23 X2_snap
  (80, 4, 1, 1, false), -- 24 X3_init
  (538, 4, 4, 8, false), -- 25 X3_look
  (603, 4, 1, 1, false), -- 26 X3_exists
  (592, 4, 2, 2, false), -- 27 X3_ringAt
  (580, 4, 2, 3, false), -- 28 X3_isBearing
  (576, 4, 3, 4, false), -- 29 X3_burden
  (633, 4, 2, 3, false), -- 30 X3_mostFor
  (546, 4, 2, 2, true), -- 31 X3_pair
  (542, 4, 1, 2, false), -- 32 X3_clear
  (550, 4, 3, 3, false), -- 33 X3_note
  (554, 4, 2, 6, false), -- 34 X3_reckon
  (559, 4, 2, 4, false), -- 35 X3_nearest
  (563, 4, 3, 4, false), -- 36 X3_through
  (568, 4, 3, 6, false), -- 37 X3_walk
  (572, 4, 2, 3, false), -- 38 X3_lowestNext
  (128, 3, 1, 1, false), -- 39 X4_init
  (145, 5, 1, 1, false), -- 40 X5_init
  (700, 5, 3, 4, false), -- 41 X5_measure
  (713, 5, 3, 3, false), -- 42 X5_pressureAt
  (704, 5, 2, 7, false), -- 43 X5_depthBySearch
  (725, 5, 2, 6, false), -- 44 X5_depthByGaps
  (751, 5, 2, 4, false), -- 45 X5_bridgeBits
  (755, 5, 4, 5, false), -- 46 X5_isPressed
  (709, 5, 2, 4, false), -- 47 X5_together
  (729, 5, 1, 4, false), -- 48 X5_sortGaps
  (68, 6, 1, 2, false), -- 49 X6_init
  (194, 6, 2, 3, false), -- 50 X6_hide
  (301, 6, 4, 5, false), -- 51 X6_fault
  (340, 6, 7, 9, false), -- 52 X6_cut
  (424, 6, 6, 7, false), -- 53 X6_find
  (444, 6, 3, 5, false), -- 54 X6_skive
  (457, 6, 3, 4, false), -- 55 X6_pierce
  (478, 6, 3, 5, false), -- 56 X6_match
  (485, 6, 3, 4, false), -- 57 X6_part
  (499, 6, 5, 6, false), -- 58 X6_buckle
  (519, 6, 2, 4, false), -- 59 X6_unbuckle
  (531, 6, 5, 6, false), -- 60 X6_bears
  (587, 6, 4, 4, false), -- 61 X6_way
  (599, 6, 4, 5, false), -- 62 X6_pull
  (628, 6, 3, 6, false), -- 63 X6_holds
  (641, 6, 2, 3, false), -- 64 X6_oil
  (648, 6, 5, 11, false), -- 65 X6_sew
  (661, 6, 4, 6, false), -- 66 X6_back
  (673, 6, 4, 6, false), -- 67 X6_tree
  (685, 6, 4, 6, false), -- 68 X6_flock
  (692, 6, 4, 4, false), -- 69 X6_sinks
  (721, 6, 4, 4, false), -- 70 X6_sinksAnew
  (739, 6, 5, 5, false), -- 71 X6_pressure
  (747, 6, 4, 4, false), -- 72 X6_bridges
  (762, 6, 7, 14, false), -- 73 X6_ride
  (788, 6, 2, 7, false), -- 74 X6_rest
  (800, 6, 4, 5, false), -- 75 X6_sore
  (807, 6, 5, 6, false), -- 76 X6_share
  (818, 6, 4, 9, false), -- 77 X6_cause
  (185, 6, 1, 1, false), -- 78 X6_rides
  (608, 6, 4, 7, false), -- 79 X6_breakStraps
  (612, 6, 2, 4, false), -- 80 X6_firstOverborne
  (621, 6, 2, 4, false), -- 81 X6_wearStraps
  (696, 6, 4, 6, false), -- 82 X6_measureGaps
  (305, 6, 2, 3, false), -- 83 X6_hideAt
  (448, 6, 2, 3, false), -- 84 X6_partAt
  (665, 6, 2, 3, false), -- 85 X6_horseAt
  (677, 6, 2, 3, false), -- 86 X6_saddleAt
  (324, 6, 2, 2, true), -- 87 X6_checkIndex
  (197, 6, 3, 3, true), -- 88 X6_checkArgument
  (502, 6, 2, 2, true), -- 89 X6_checkDifferent
  (534, 6, 2, 2, true), -- 90 X6_checkRings
  (823, 7, 1, 1, false), -- 91 X7_init
  (917, 7, 1, 1, false), -- 92 X7_thrown
  (928, 7, 2, 2, false), -- 93 X7_fails
  (924, 7, 3, 3, true), -- 94 X7_isIn
  (936, 7, 2, 2, false), -- 95 X7_isHide
  (969, 7, 2, 2, false), -- 96 X7_isPart
  (1001, 7, 1, 1, true), -- 97 X7_isRing
  (939, 7, 2, 2, true), -- 98 X7_isSquare
  (921, 7, 2, 2, false), -- 99 X7_hide
  (932, 7, 4, 6, false), -- 100 X7_fault
  (946, 7, 2, 2, true), -- 101 X7_areSizes
  (950, 7, 7, 10, false), -- 102 X7_isWhole
  (954, 7, 4, 4, false), -- 103 X7_thicknessOf
  (943, 7, 7, 11, false), -- 104 X7_cut
  (961, 7, 3, 5, true), -- 105 X7_worth
  (958, 7, 6, 12, false), -- 106 X7_find
  (965, 7, 3, 4, false), -- 107 X7_skive
  (978, 7, 2, 2, false), -- 108 X7_isBuckled
  (973, 7, 3, 8, false), -- 109 X7_pierce
  (990, 7, 2, 4, false), -- 110 X7_holesOf
  (982, 7, 3, 4, false), -- 111 X7_match
  (994, 7, 2, 3, false), -- 112 X7_strength
  (986, 7, 3, 3, false), -- 113 X7_part
  (1005, 7, 3, 6, false), -- 114 X7_placeOf
  (1013, 7, 2, 2, false), -- 115 X7_frees
  (998, 7, 5, 7, false), -- 116 X7_buckle
  (1009, 7, 2, 3, false), -- 117 X7_unbuckle
  (1030, 7, 4, 4, false), -- 118 X7_joins
  (1026, 7, 3, 5, false), -- 119 X7_shortest
  (1021, 7, 3, 8, false), -- 120 X7_finds
  (1038, 7, 2, 4, false), -- 121 X7_sharers
  (1042, 7, 3, 3, false), -- 122 X7_isSharer
  (1034, 7, 2, 5, false), -- 123 X7_loads
  (1017, 7, 5, 6, false), -- 124 X7_bears
  (1046, 7, 4, 5, false), -- 125 X7_way
  (1054, 7, 1, 3, false), -- 126 X7_breaking
  (1050, 7, 4, 10, false), -- 127 X7_pull
  (1058, 7, 3, 9, false), -- 128 X7_holds
  (1062, 7, 2, 2, false), -- 129 X7_oil
  (1070, 7, 2, 2, false), -- 130 X7_canSew
  (1066, 7, 5, 11, false), -- 131 X7_sew
  (1077, 7, 1, 1, true), -- 132 X7_isHorse
  (1091, 7, 1, 1, true), -- 133 X7_isSaddle
  (1080, 7, 1, 1, true), -- 134 X7_isSection
  (1084, 7, 7, 8, false), -- 135 X7_sets
  (1074, 7, 4, 4, false), -- 136 X7_back
  (1088, 7, 4, 4, false), -- 137 X7_tree
  (1095, 7, 4, 4, false), -- 138 X7_flock
  (1118, 7, 4, 4, false), -- 139 X7_gap
  (1114, 7, 5, 6, false), -- 140 X7_pressureAt
  (1110, 7, 4, 7, false), -- 141 X7_depthOf
  (1106, 7, 5, 5, false), -- 142 X7_missesSaddle
  (1102, 7, 1, 1, true), -- 143 X7_isWeight
  (1099, 7, 4, 4, false), -- 144 X7_sinks
  (1122, 7, 4, 4, false), -- 145 X7_sinksAnew
  (1127, 7, 5, 5, false), -- 146 X7_pressure
  (1131, 7, 4, 9, false), -- 147 X7_bridges
  (1139, 7, 2, 4, false), -- 148 X7_isLame
  (1135, 7, 7, 15, false), -- 149 X7_ride
  (1143, 7, 2, 4, false), -- 150 X7_rest
  (1147, 7, 4, 4, false), -- 151 X7_sore
  (1159, 7, 4, 5, false), -- 152 X7_shareOf
  (1155, 7, 4, 4, false), -- 153 X7_missesShare
  (1151, 7, 5, 5, false), -- 154 X7_share
  (1163, 7, 4, 7, false), -- 155 X7_cause
  (1167, 7, 1, 1, false), -- 156 X7_rides
  (732, 11, 2, 3, true), -- 157 J9_floorDiv_7cf53
  (492, 11, 2, 2, true), -- 158 J9_max_7cf53
  (507, 11, 2, 2, true), -- 159 J9_min_7cf53
  (188, 12, 3, 4, true), -- 160 L_hide
  (296, 12, 5, 6, true), -- 161 L_fault
  (336, 12, 8, 9, true), -- 162 L_cut
  (420, 12, 7, 8, true), -- 163 L_find
  (440, 12, 4, 5, true), -- 164 L_skive
  (453, 12, 4, 5, true), -- 165 L_pierce
  (474, 12, 4, 5, true), -- 166 L_match
  (481, 12, 4, 5, true), -- 167 L_part
  (495, 12, 6, 7, true), -- 168 L_buckle
  (515, 12, 3, 4, true), -- 169 L_unbuckle
  (527, 12, 6, 7, true), -- 170 L_bears
  (583, 12, 5, 6, true), -- 171 L_way
  (595, 12, 5, 6, true), -- 172 L_pull
  (624, 12, 4, 5, true), -- 173 L_holds
  (637, 12, 3, 4, true), -- 174 L_oil
  (644, 12, 6, 7, true), -- 175 L_sew
  (657, 12, 5, 6, true), -- 176 L_back
  (669, 12, 5, 6, true), -- 177 L_tree
  (681, 12, 5, 6, true), -- 178 L_flock
  (688, 12, 5, 6, true), -- 179 L_sinks
  (717, 12, 5, 6, true), -- 180 L_sinksAnew
  (735, 12, 6, 7, true), -- 181 L_pressure
  (743, 12, 5, 6, true), -- 182 L_bridges
  (758, 12, 8, 9, true), -- 183 L_ride
  (784, 12, 3, 4, true), -- 184 L_rest
  (796, 12, 5, 6, true), -- 185 L_sore
  (803, 12, 6, 7, true), -- 186 L_share
  (814, 12, 5, 6, true), -- 187 L_cause
  (100000, 12, 1, 7, true), -- 188 L_law
  (772, 2, 6, 6, false), -- 189 X1_makeSorer
  (780, 3, 2, 2, false)] -- 190 X4_settle
/-- field links: owner, index; class, field; by a nest mate; its place among the words -/
def xFL : List ((Nat × Nat) × (Nat × Nat × Bool × Nat)) := [
  ((4, 9), (4, 0, false, 82)),
  ((4, 15), (4, 1, false, 83)),
  ((4, 18), (4, 2, false, 84)),
  ((4, 22), (4, 3, false, 85)),
  ((4, 25), (4, 4, false, 86)),
  ((4, 62), (4, 5, false, 87)),
  ((2, 9), (2, 0, false, 110)),
  ((5, 26), (2, 0, true, 111)),
  ((6, 236), (2, 0, true, 112)),
  ((2, 15), (2, 1, false, 113)),
  ((6, 287), (2, 1, true, 114)),
  ((2, 18), (2, 2, false, 115)),
  ((3, 9), (3, 0, false, 130)),
  ((5, 18), (3, 0, true, 131)),
  ((6, 244), (3, 0, true, 132)),
  ((3, 15), (3, 1, false, 133)),
  ((5, 23), (3, 1, true, 134)),
  ((6, 245), (3, 1, true, 135)),
  ((5, 9), (5, 0, false, 147)),
  ((5, 15), (5, 1, false, 148)),
  ((6, 11), (6, 0, false, 154)),
  ((6, 53), (6, 1, false, 155)),
  ((6, 17), (6, 2, false, 156)),
  ((6, 89), (6, 3, false, 157)),
  ((6, 24), (6, 4, false, 158)),
  ((6, 30), (6, 5, false, 159)),
  ((6, 37), (6, 6, false, 160)),
  ((6, 45), (6, 7, false, 161)),
  ((6, 268), (6, 8, false, 162)),
  ((0, 9), (0, 0, false, 287)),
  ((0, 15), (0, 1, false, 288)),
  ((1, 9), (1, 0, false, 363)),
  ((6, 117), (1, 0, true, 364)),
  ((1, 15), (1, 1, false, 365)),
  ((6, 143), (1, 1, true, 366)),
  ((1, 18), (1, 2, false, 367)),
  ((6, 146), (1, 2, true, 368)),
  ((1, 24), (1, 3, false, 369)),
  ((6, 140), (1, 3, true, 370)),
  ((1, 28), (1, 4, false, 371)),
  ((1, 21), (1, 5, false, 372)),
  ((6, 109), (1, 5, true, 373)),
  ((1, 41), (1, 6, false, 374)),
  ((6, 149), (1, 6, true, 375)),
  ((1, 44), (1, 7, false, 376)),
  ((6, 152), (1, 7, true, 377)),
  ((6, 112), (1, 8, true, 378)),
  ((1, 53), (1, 8, false, 379)),
  ((1, 32), (1, 9, false, 380)),
  ((4, 37), (1, 9, true, 381)),
  ((6, 158), (1, 9, true, 382)),
  ((1, 35), (1, 10, false, 383)),
  ((4, 41), (1, 10, true, 384)),
  ((6, 161), (1, 10, true, 385)),
  ((1, 38), (1, 11, false, 386)),
  ((4, 48), (1, 11, true, 387)),
  ((6, 164), (1, 11, true, 388)),
  ((1, 60), (1, 12, false, 389)),
  ((6, 130), (1, 12, true, 390)),
  ((7, 88), (7, 0, false, 825)),
  ((7, 7), (7, 1, false, 826)),
  ((7, 13), (7, 2, false, 827)),
  ((7, 95), (7, 3, false, 828)),
  ((7, 16), (7, 4, false, 829)),
  ((7, 19), (7, 5, false, 830)),
  ((7, 22), (7, 6, false, 831)),
  ((7, 25), (7, 7, false, 832)),
  ((7, 28), (7, 8, false, 833)),
  ((7, 32), (7, 9, false, 834)),
  ((7, 36), (7, 10, false, 835)),
  ((7, 39), (7, 11, false, 836)),
  ((7, 42), (7, 12, false, 837)),
  ((7, 45), (7, 13, false, 838)),
  ((7, 48), (7, 14, false, 839)),
  ((7, 51), (7, 15, false, 840)),
  ((7, 54), (7, 16, false, 841)),
  ((7, 156), (7, 17, false, 842)),
  ((7, 57), (7, 18, false, 843)),
  ((7, 60), (7, 19, false, 844)),
  ((7, 63), (7, 20, false, 845)),
  ((7, 66), (7, 21, false, 846)),
  ((7, 69), (7, 22, false, 847)),
  ((7, 72), (7, 23, false, 848)),
  ((7, 214), (7, 24, false, 849)),
  ((7, 75), (7, 25, false, 850)),
  ((7, 78), (7, 26, false, 851)),
  ((7, 81), (7, 27, false, 852)),
  ((7, 84), (7, 28, false, 853))]
/-- calls: owner, index; method, kind (0 static, 1 virtual, 2 a constructor); the places of methodLink, of instanceMethod or static, of selects -/
def xCL : List ((Nat × Nat) × (Nat × Nat × Nat × Nat × Nat)) := [
  ((12, 107), (49, 2, 66, 67, 0)),
  ((6, 23), (24, 2, 78, 79, 0)),
  ((6, 34), (10, 2, 106, 107, 0)),
  ((6, 41), (39, 2, 126, 127, 0)),
  ((6, 44), (40, 2, 143, 144, 0)),
  ((12, 208), (78, 1, 182, 183, 184)),
  ((12, 111), (160, 0, 186, 187, 0)),
  ((12, 7), (50, 1, 191, 192, 193)),
  ((6, 49), (88, 0, 195, 196, 0)),
  ((6, 64), (0, 2, 283, 284, 0)),
  ((12, 121), (161, 0, 294, 295, 0)),
  ((12, 17), (51, 1, 298, 299, 300)),
  ((6, 67), (83, 1, 302, 304, 1)),
  ((6, 71), (87, 0, 322, 323, 0)),
  ((6, 75), (1, 1, 326, 327, 328)),
  ((6, 79), (2, 1, 330, 331, 332)),
  ((12, 125), (162, 0, 334, 335, 0)),
  ((12, 23), (52, 1, 337, 338, 339)),
  ((6, 83), (4, 1, 341, 342, 343)),
  ((0, 19), (8, 0, 345, 346, 0)),
  ((0, 23), (7, 1, 348, 350, 2)),
  ((6, 94), (3, 1, 355, 356, 357)),
  ((6, 98), (15, 2, 359, 360, 0)),
  ((12, 129), (163, 0, 418, 419, 0)),
  ((12, 27), (53, 1, 421, 422, 423)),
  ((6, 101), (5, 1, 425, 426, 427)),
  ((0, 27), (9, 0, 429, 430, 0)),
  ((0, 31), (3, 1, 432, 356, 357)),
  ((0, 35), (6, 1, 433, 435, 3)),
  ((0, 39), (4, 1, 437, 342, 343)),
  ((12, 133), (164, 0, 438, 439, 0)),
  ((12, 31), (54, 1, 441, 442, 443)),
  ((6, 105), (84, 1, 445, 447, 4)),
  ((12, 137), (165, 0, 451, 452, 0)),
  ((12, 35), (55, 1, 454, 455, 456)),
  ((6, 120), (16, 1, 458, 459, 460)),
  ((6, 126), (20, 1, 463, 464, 465)),
  ((6, 136), (17, 1, 468, 469, 470)),
  ((12, 140), (166, 0, 472, 473, 0)),
  ((12, 38), (56, 1, 475, 476, 477)),
  ((12, 143), (167, 0, 479, 480, 0)),
  ((12, 42), (57, 1, 482, 483, 484)),
  ((6, 155), (19, 1, 486, 487, 488)),
  ((1, 47), (158, 0, 490, 491, 0)),
  ((12, 146), (168, 0, 493, 494, 0)),
  ((12, 45), (58, 1, 496, 497, 498)),
  ((6, 167), (89, 0, 500, 501, 0)),
  ((6, 172), (159, 0, 505, 506, 0)),
  ((6, 177), (158, 0, 508, 491, 0)),
  ((6, 180), (18, 1, 509, 510, 511)),
  ((12, 150), (169, 0, 513, 514, 0)),
  ((12, 49), (59, 1, 516, 517, 518)),
  ((6, 185), (22, 1, 521, 522, 523)),
  ((12, 153), (170, 0, 525, 526, 0)),
  ((12, 52), (60, 1, 528, 529, 530)),
  ((6, 188), (90, 0, 532, 533, 0)),
  ((6, 191), (25, 1, 535, 536, 537)),
  ((4, 28), (32, 1, 539, 541, 5)),
  ((4, 31), (20, 1, 543, 464, 465)),
  ((4, 44), (31, 0, 544, 545, 0)),
  ((4, 51), (33, 1, 547, 549, 6)),
  ((4, 55), (34, 1, 551, 553, 7)),
  ((4, 74), (35, 1, 556, 558, 8)),
  ((4, 78), (36, 1, 560, 562, 9)),
  ((4, 81), (159, 0, 564, 506, 0)),
  ((4, 59), (37, 1, 565, 567, 10)),
  ((4, 86), (38, 1, 569, 571, 11)),
  ((6, 195), (29, 1, 573, 574, 575)),
  ((4, 65), (28, 1, 577, 578, 579)),
  ((12, 156), (171, 0, 581, 582, 0)),
  ((12, 55), (61, 1, 584, 585, 586)),
  ((6, 204), (27, 1, 589, 590, 591)),
  ((12, 159), (172, 0, 593, 594, 0)),
  ((12, 58), (62, 1, 596, 597, 598)),
  ((6, 207), (26, 1, 600, 601, 602)),
  ((6, 212), (79, 1, 605, 607, 12)),
  ((6, 293), (80, 1, 609, 611, 13)),
  ((6, 296), (23, 1, 613, 614, 615)),
  ((1, 63), (22, 1, 617, 522, 523)),
  ((6, 216), (81, 1, 618, 620, 14)),
  ((12, 162), (173, 0, 622, 623, 0)),
  ((12, 61), (63, 1, 625, 626, 627)),
  ((6, 219), (28, 1, 629, 578, 579)),
  ((6, 223), (30, 1, 630, 631, 632)),
  ((4, 69), (19, 1, 634, 487, 488)),
  ((12, 165), (174, 0, 635, 636, 0)),
  ((12, 64), (64, 1, 638, 639, 640)),
  ((12, 168), (175, 0, 642, 643, 0)),
  ((12, 67), (65, 1, 645, 646, 647)),
  ((6, 227), (21, 1, 649, 650, 651)),
  ((1, 56), (20, 1, 653, 464, 465)),
  ((12, 171), (176, 0, 655, 656, 0)),
  ((12, 70), (66, 1, 658, 659, 660)),
  ((6, 232), (85, 1, 662, 664, 15)),
  ((12, 174), (177, 0, 667, 668, 0)),
  ((12, 73), (67, 1, 670, 671, 672)),
  ((6, 240), (86, 1, 674, 676, 16)),
  ((12, 177), (178, 0, 679, 680, 0)),
  ((12, 76), (68, 1, 682, 683, 684)),
  ((12, 180), (179, 0, 686, 687, 0)),
  ((12, 79), (69, 1, 689, 690, 691)),
  ((6, 248), (82, 1, 693, 695, 17)),
  ((6, 273), (41, 1, 697, 698, 699)),
  ((6, 251), (43, 1, 701, 702, 703)),
  ((5, 35), (159, 0, 705, 506, 0)),
  ((5, 38), (47, 1, 706, 708, 18)),
  ((5, 48), (42, 1, 710, 711, 712)),
  ((5, 29), (158, 0, 714, 491, 0)),
  ((12, 183), (180, 0, 715, 716, 0)),
  ((12, 82), (70, 1, 718, 719, 720)),
  ((6, 254), (44, 1, 722, 723, 724)),
  ((5, 42), (48, 1, 726, 728, 19)),
  ((5, 45), (157, 0, 730, 731, 0)),
  ((12, 186), (181, 0, 733, 734, 0)),
  ((12, 85), (71, 1, 736, 737, 738)),
  ((6, 257), (42, 1, 740, 711, 712)),
  ((12, 189), (182, 0, 741, 742, 0)),
  ((12, 88), (72, 1, 744, 745, 746)),
  ((6, 260), (45, 1, 748, 749, 750)),
  ((5, 51), (46, 1, 752, 754, 20)),
  ((12, 192), (183, 0, 756, 757, 0)),
  ((12, 91), (73, 1, 759, 760, 761)),
  ((6, 263), (11, 1, 763, 764, 765)),
  ((6, 277), (189, 1, 769, 770, 771)),
  ((2, 27), (13, 1, 773, 775, 21)),
  ((6, 281), (190, 1, 777, 778, 779)),
  ((3, 18), (158, 0, 781, 491, 0)),
  ((12, 196), (184, 0, 782, 783, 0)),
  ((12, 95), (74, 1, 785, 786, 787)),
  ((6, 284), (12, 1, 789, 790, 791)),
  ((2, 21), (158, 0, 793, 491, 0)),
  ((12, 199), (185, 0, 794, 795, 0)),
  ((12, 98), (75, 1, 797, 798, 799)),
  ((12, 202), (186, 0, 801, 802, 0)),
  ((12, 101), (76, 1, 804, 805, 806)),
  ((6, 290), (14, 1, 808, 809, 810)),
  ((12, 205), (187, 0, 812, 813, 0)),
  ((12, 104), (77, 1, 815, 816, 817)),
  ((12, 110), (91, 2, 821, 822, 0)),
  ((12, 117), (92, 1, 914, 915, 916)),
  ((12, 116), (99, 1, 918, 919, 920)),
  ((7, 91), (94, 0, 922, 923, 0)),
  ((7, 98), (93, 1, 925, 927, 22)),
  ((12, 124), (100, 1, 929, 930, 931)),
  ((7, 102), (95, 1, 933, 935, 23)),
  ((7, 105), (98, 0, 937, 938, 0)),
  ((12, 128), (104, 1, 940, 941, 942)),
  ((7, 109), (101, 0, 944, 945, 0)),
  ((7, 112), (102, 1, 947, 949, 24)),
  ((7, 116), (103, 1, 951, 953, 25)),
  ((12, 132), (106, 1, 955, 956, 957)),
  ((7, 120), (105, 0, 959, 960, 0)),
  ((12, 136), (107, 1, 962, 963, 964)),
  ((7, 123), (96, 1, 966, 968, 26)),
  ((12, 139), (109, 1, 970, 971, 972)),
  ((7, 128), (108, 1, 975, 977, 27)),
  ((12, 142), (111, 1, 979, 980, 981)),
  ((12, 145), (113, 1, 983, 984, 985)),
  ((7, 131), (110, 1, 987, 989, 28)),
  ((7, 135), (112, 1, 991, 993, 29)),
  ((12, 149), (116, 1, 995, 996, 997)),
  ((7, 138), (97, 0, 999, 1000, 0)),
  ((7, 141), (114, 1, 1002, 1004, 30)),
  ((12, 152), (117, 1, 1006, 1007, 1008)),
  ((7, 145), (115, 1, 1010, 1012, 31)),
  ((12, 155), (124, 1, 1014, 1015, 1016)),
  ((7, 165), (120, 1, 1018, 1020, 32)),
  ((7, 153), (119, 1, 1023, 1025, 33)),
  ((7, 150), (118, 1, 1027, 1029, 34)),
  ((7, 168), (123, 1, 1031, 1033, 35)),
  ((7, 162), (121, 1, 1035, 1037, 36)),
  ((7, 159), (122, 1, 1039, 1041, 37)),
  ((12, 158), (125, 1, 1043, 1044, 1045)),
  ((12, 161), (127, 1, 1047, 1048, 1049)),
  ((7, 171), (126, 1, 1051, 1053, 38)),
  ((12, 164), (128, 1, 1055, 1056, 1057)),
  ((12, 167), (129, 1, 1059, 1060, 1061)),
  ((12, 170), (131, 1, 1063, 1064, 1065)),
  ((7, 175), (130, 1, 1067, 1069, 39)),
  ((12, 173), (136, 1, 1071, 1072, 1073)),
  ((7, 178), (132, 0, 1075, 1076, 0)),
  ((7, 181), (134, 0, 1078, 1079, 0)),
  ((7, 184), (135, 1, 1081, 1083, 40)),
  ((12, 176), (137, 1, 1085, 1086, 1087)),
  ((7, 188), (133, 0, 1089, 1090, 0)),
  ((12, 179), (138, 1, 1092, 1093, 1094)),
  ((12, 182), (144, 1, 1096, 1097, 1098)),
  ((7, 198), (143, 0, 1100, 1101, 0)),
  ((7, 201), (142, 1, 1103, 1105, 41)),
  ((7, 205), (141, 1, 1107, 1109, 42)),
  ((7, 194), (140, 1, 1111, 1113, 43)),
  ((7, 191), (139, 1, 1115, 1117, 44)),
  ((12, 185), (145, 1, 1119, 1120, 1121)),
  ((7, 208), (144, 1, 1123, 1097, 1098)),
  ((12, 188), (146, 1, 1124, 1125, 1126)),
  ((12, 191), (147, 1, 1128, 1129, 1130)),
  ((12, 195), (149, 1, 1132, 1133, 1134)),
  ((7, 211), (148, 1, 1136, 1138, 45)),
  ((12, 198), (150, 1, 1140, 1141, 1142)),
  ((12, 201), (151, 1, 1144, 1145, 1146)),
  ((12, 204), (154, 1, 1148, 1149, 1150)),
  ((7, 217), (153, 1, 1152, 1154, 46)),
  ((7, 220), (152, 1, 1156, 1158, 47)),
  ((12, 207), (155, 1, 1160, 1161, 1162)),
  ((12, 211), (156, 1, 1164, 1165, 1166))]
/-- Object.<init>, by owner and index -/
def xOL : List ((Nat × Nat) × Nat) := [
  ((6, 1), 69),
  ((4, 3), 81),
  ((2, 3), 109),
  ((3, 3), 129),
  ((5, 3), 146),
  ((0, 3), 286),
  ((1, 3), 362),
  ((7, 1), 824)]
/-- the constructors of exceptions, by owner and index: which -/
def xIL : List ((Nat × Nat) × Nat) := [
  ((6, 313), 8),
  ((6, 61), 9),
  ((6, 203), 10)]
/-- class links: owner, index; class; place -/
def xKL : List ((Nat × Nat) × (Nat × Nat)) := [
  ((12, 8), (6, 64)),
  ((6, 9), (0, 72)),
  ((6, 15), (1, 74)),
  ((6, 21), (4, 76)),
  ((6, 28), (2, 103)),
  ((6, 35), (3, 123)),
  ((6, 42), (5, 141)),
  ((12, 13), (8, 189)),
  ((12, 15), (9, 190)),
  ((6, 309), (8, 198)),
  ((6, 57), (9, 266)),
  ((12, 21), (10, 297)),
  ((6, 199), (10, 306)),
  ((12, 108), (7, 819))]
/-- String constants: owner, index; text -/
def xSL : List ((Nat × Nat) × String) := [
  ((6, 311), "out of range"),
  ((6, 59), "there are 8 hides"),
  ((6, 299), "there is no such hide"),
  ((6, 307), "there is no such number"),
  ((6, 87), "it cannot be cut there"),
  ((6, 92), "there were 40 parts"),
  ((6, 301), "there is no such part"),
  ((6, 115), "it is in a seam"),
  ((6, 124), "it is too near to another hole"),
  ((6, 134), "it is in a seam, buckled, or broke"),
  ((6, 314), "both are one"),
  ((6, 170), "it is no strap, is buckled, or broke"),
  ((6, 183), "it is not buckled"),
  ((6, 201), "place is below 0"),
  ((6, 210), "there is no way"),
  ((6, 230), "one has 4 seams, is buckled, or broke"),
  ((6, 303), "there is no such horse"),
  ((6, 305), "there is no such saddle"),
  ((6, 266), "the horse is lame"),
  ((6, 271), "there were 60 rides")]
/-- constants of the pools -/
def xIC : List ((Nat × Nat) × (Int32 × Nat)) := [
  ((4, 73), (1000000, 555)),
  ((7, 149), (100000000, 1022))]
def xJC : List ((Nat × Nat) × (Int64 × Nat)) := [
  ((7, 126), (7, 974))]
/-! THE PURE MACHINE: a heap of cells 0, 1, .. (shape; ints, longs, references by cell and place), a frame (place, locals, stack), a step, a run. A reference k stands for the real cell base + k, '.retAddr 0' for the script. -/
abbrev xH : Type := (Nat → Nat × Nat) × (Nat × Nat) × (Nat → Nat → Int32) × (Nat → Nat → Int64) × (Nat → Nat → Option Nat)
abbrev xL : Type := List (Option Value)
abbrev xO : Type := Option Value ⊕ Nat
abbrev xR : Type := Option (xO × xH)
abbrev xA : Type := Option ((Nat × xL × List Value × xH) ⊕ ((xO × xH) ⊕ (Nat × List Value × Nat × List Value)))
abbrev xS : Type := Nat × (Nat → Int32)
def xup2 {α : Type} (f : Nat → Nat → α) (a k : Nat) (v : α) : Nat → Nat → α := fun b j => if b = a ∧ j = k then v else f b j
/-- a new cell, all 0 -/
def xnew (h : xH) (sh : Nat × Nat) (n : Nat) : xH := (va_up h.1 h.2.1.1 sh, (h.2.1.1 + 1, h.2.1.2 + n), va_up h.2.2.1 h.2.1.1 (fun _ => 0), va_up h.2.2.2.1 h.2.1.1 (fun _ => 0), va_up h.2.2.2.2 h.2.1.1 (fun _ => none))
def xgo (pc : Nat) (L : xL) (S : List Value) (h : xH) : xA := some (.inl (pc, L, S, h))
def xend (o : xO) (h : xH) : xA := some (.inr (.inl (o, h)))
def xcal (j : Nat) (as : List Value) (pc : Nat) (S : List Value) : xA := some (.inr (.inr (j, as, pc, S)))
def xjmp (pc : Nat) (off : Int) : Nat := ((pc : Int) + off).toNat
/-- methods by number -/
def xhd (j : Nat) : Cond := lw_tbl.getD (xMs.getD j (100000, 0, 0, 0, false)).1 (.code x code maxLocals ret)
def xmy (j : Nat) : MethodName := match xhd j with
  | .code y _ _ _ => y
  | .codeWith y _ _ _ _ => y
  | _ => ⟨"", "", ""⟩
def xmc (j : Nat) : ByteArray := match xhd j with
  | .code _ c _ _ => c
  | .codeWith _ c _ _ _ => c
  | _ => ⟨#[]⟩
def xmr (j : Nat) : Option FieldType := match xhd j with
  | .code _ _ _ r => r
  | .codeWith _ _ _ r _ => r
  | _ => none
def xmh (j : Nat) : List (Nat × Nat × Nat × Nat) := match xhd j with
  | .codeWith _ _ _ _ h => h
  | _ => []
def xmo (j : Nat) : Nat := (xMs.getD j (100000, 0, 0, 0, false)).2.1
def xmn (j : Nat) : Nat := (xMs.getD j (100000, 0, 0, 0, false)).2.2.1
def xml (j : Nat) : Nat := (xMs.getD j (100000, 0, 0, 0, false)).2.2.2.1
def xms (j : Nat) : Bool := (xMs.getD j (100000, 0, 0, 0, false)).2.2.2.2
/-- an instruction's length; 0 of what is not among these -/
def xlen : Instr → Nat
  | .iconst _ | .lconst _ | .aconst_null | .iload_n _ | .aload_n _ | .istore_n _ | .astore_n _ | .iadd | .isub | .imul | .idiv | .irem | .iand | .ior | .ixor | .ishl | .ishr | .i2l | .l2i | .land | .lor | .lshl | .lshr | .lcmp | .dup | .dup2 | .ireturn | .areturn | .return_ | .arraylength | .iaload | .iastore | .baload | .bastore | .laload | .lastore | .aaload | .aastore | .athrow => 1
  | .bipush _ | .ldc _ | .iload _ | .aload _ | .istore _ | .astore _ | .newarray _ => 2
  | .sipush _ | .ldc_w _ | .ldc2_w _ | .iinc _ _ | .if_icmp _ _ | .ifCond _ _ | .goto _ | .ifnull _ | .ifnonnull _ | .getfield _ | .putfield _ | .invokestatic _ | .invokevirtual _ | .invokespecial _ | .new _ | .anewarray _ => 3
  | _ => 0
def xsw : Instr → Bool
  | .tableswitch _ _ _ _ => true
  | _ => false
/-- the instruction at a place -/
def xft (j pc : Nat) : Option Instr := match decode (xmc j) pc with
  | .ok (ins, len) => if xlen ins = len ∨ xsw ins = true then some ins else none
  | .error _ => none
def xlk {β : Type} : List ((Nat × Nat) × β) → Nat → Nat → Option β
  | [], _, _ => none
  | (k, v) :: r, o, i => if k.1 = o ∧ k.2 = i then some v else xlk r o i
def xcat1 : Value → Bool
  | .long _ => false
  | .double _ => false
  | _ => true
/-- a call of method j, with the arguments on the stack -/
def xinv (j pc : Nat) (S : List Value) : xA :=
  if xmn j ≤ S.length ∧ ((S.drop (xmn j)).length ≤ 4 ∨ ((S.drop (xmn j)).length ≤ 8 ∧ (S.drop (xmn j)).all xcat1 = true)) then xcal j ((S.take (xmn j)).reverse) (pc + 3) (S.drop (xmn j)) else none
/-- what a receiver must be -/
def xrcv (j : Nat) (h : xH) : List Value → Bool
  | .ref a :: _ => decide (h.1 a = (1 + xmo j, 0))
  | _ => false
/-- a jump's two ways -/
def xbr (c : Prop) [Decidable c] (pc : Nat) (off : Int) (L : xL) (S : List Value) (h : xH) : xA :=
  if 0 ≤ (pc : Int) + off then xgo (if c then xjmp pc off else pc + 3) L S h else none
def xst (L : xL) (k : Nat) (v : Value) (pc : Nat) (S : List Value) (h : xH) : xA := if k < L.length then xgo pc (L.set k (some v)) S h else none
def xis01 (x : Int32) : Prop := x = 0 ∨ x = 1
/-- 'throw new E(text)' at pc -/
def xthr (d i pc e : Nat) (S : List Value) (h : xH) : xA :=
  if 6 ≤ d ∧ S.length ≤ 4 ∧ xmh i = [] ∧ xft i (pc + 3) = some .dup then
    match xft i (pc + 4) with
    | some (.ldc s) => match xlk xSL (xmo i) s, xft i (pc + 6), xft i (pc + 9) with
      | some _, some (.invokespecial c), some .athrow => if xlk xIL (xmo i) c = some e then xend (.inr e) (xnew h (1 + e, 0) 6) else none
      | _, _, _ => none
    | some (.ldc_w s) => match xlk xSL (xmo i) s, xft i (pc + 7), xft i (pc + 10) with
      | some _, some (.invokespecial c), some .athrow => if xlk xIL (xmo i) c = some e then xend (.inr e) (xnew h (1 + e, 0) 6) else none
      | _, _, _ => none
    | _ => none
  else none
def xact (sc : xS) (d i : Nat) (ins : Instr) (pc : Nat) (L : xL) (S : List Value) (h : xH) : xA := match ins with
  | .iconst n => xgo (pc + 1) L (.int (Int32.ofInt n) :: S) h
  | .bipush n => xgo (pc + 2) L (.int (Int8.ofInt n).toInt32 :: S) h
  | .sipush n => xgo (pc + 3) L (.int (Int16.ofInt n).toInt32 :: S) h
  | .lconst n => xgo (pc + 1) L (.long (Int64.ofNat n.val) :: S) h
  | .ldc k => match xlk xIC (xmo i) k with
    | some v => xgo (pc + 2) L (.int v.1 :: S) h
    | none => none
  | .ldc2_w k => match xlk xJC (xmo i) k with
    | some v => xgo (pc + 3) L (.long v.1 :: S) h
    | none => none
  | .aconst_null => xgo (pc + 1) L (.null :: S) h
  | .iload_n k => match L[k.val]? with
    | some (some (.int x)) => xgo (pc + 1) L (.int x :: S) h
    | _ => none
  | .iload k => match L[k]? with
    | some (some (.int x)) => xgo (pc + 2) L (.int x :: S) h
    | _ => none
  | .aload_n k => match L[k.val]? with
    | some (some (.ref a)) => xgo (pc + 1) L (.ref a :: S) h
    | some (some .null) => xgo (pc + 1) L (.null :: S) h
    | some (some (.retAddr z)) => xgo (pc + 1) L (.retAddr z :: S) h
    | _ => none
  | .aload k => match L[k]? with
    | some (some (.ref a)) => xgo (pc + 2) L (.ref a :: S) h
    | some (some .null) => xgo (pc + 2) L (.null :: S) h
    | some (some (.retAddr z)) => xgo (pc + 2) L (.retAddr z :: S) h
    | _ => none
  | .istore_n k => match S with
    | .int x :: S => xst L k.val (.int x) (pc + 1) S h
    | _ => none
  | .istore k => match S with
    | .int x :: S => xst L k (.int x) (pc + 2) S h
    | _ => none
  | .astore_n k => match S with
    | .ref a :: S => xst L k.val (.ref a) (pc + 1) S h
    | .null :: S => xst L k.val .null (pc + 1) S h
    | _ => none
  | .astore k => match S with
    | .ref a :: S => xst L k (.ref a) (pc + 2) S h
    | .null :: S => xst L k .null (pc + 2) S h
    | _ => none
  | .iinc k n => match L[k]? with
    | some (some (.int x)) => xst L k (.int (x + Int32.ofInt n)) (pc + 3) S h
    | _ => none
  | .iadd => match S with
    | .int y :: .int x :: S => xgo (pc + 1) L (.int (x + y) :: S) h
    | _ => none
  | .isub => match S with
    | .int y :: .int x :: S => xgo (pc + 1) L (.int (x - y) :: S) h
    | _ => none
  | .imul => match S with
    | .int y :: .int x :: S => xgo (pc + 1) L (.int (x * y) :: S) h
    | _ => none
  | .idiv => match S with
    | .int y :: .int x :: S => if y = 0 then none else xgo (pc + 1) L (.int (x / y) :: S) h
    | _ => none
  | .irem => match S with
    | .int y :: .int x :: S => if y = 0 then none else xgo (pc + 1) L (.int (x - x / y * y) :: S) h
    | _ => none
  | .iand => match S with
    | .int y :: .int x :: S => xgo (pc + 1) L (.int (x &&& y) :: S) h
    | _ => none
  | .ior => match S with
    | .int y :: .int x :: S => xgo (pc + 1) L (.int (x ||| y) :: S) h
    | _ => none
  | .ixor => match S with
    | .int y :: .int x :: S => xgo (pc + 1) L (.int (x ^^^ y) :: S) h
    | _ => none
  | .ishl => match S with
    | .int y :: .int x :: S => xgo (pc + 1) L (.int (x <<< (y &&& 31)) :: S) h
    | _ => none
  | .ishr => match S with
    | .int y :: .int x :: S => xgo (pc + 1) L (.int (x >>> (y &&& 31)) :: S) h
    | _ => none
  | .i2l => match S with
    | .int x :: S => xgo (pc + 1) L (.long x.toInt64 :: S) h
    | _ => none
  | .l2i => match S with
    | .long x :: S => xgo (pc + 1) L (.int x.toInt32 :: S) h
    | _ => none
  | .land => match S with
    | .long y :: .long x :: S => xgo (pc + 1) L (.long (x &&& y) :: S) h
    | _ => none
  | .lor => match S with
    | .long y :: .long x :: S => xgo (pc + 1) L (.long (x ||| y) :: S) h
    | _ => none
  | .lshl => match S with
    | .int y :: .long x :: S => xgo (pc + 1) L (.long (x <<< (y.toInt64 &&& 63)) :: S) h
    | _ => none
  | .lshr => match S with
    | .int y :: .long x :: S => xgo (pc + 1) L (.long (x >>> (y.toInt64 &&& 63)) :: S) h
    | _ => none
  | .lcmp => match S with
    | .long y :: .long x :: S => xgo (pc + 1) L (.int (lg_cmp x y) :: S) h
    | _ => none
  | .dup => match S with
    | v :: S => if xcat1 v = true then xgo (pc + 1) L (v :: v :: S) h else none
    | _ => none
  | .dup2 => match S with
    | v :: w :: S => if xcat1 v = true ∧ xcat1 w = true then xgo (pc + 1) L (v :: w :: v :: w :: S) h else none
    | _ => none
  | .if_icmp .eq off => match S with
    | .int y :: .int x :: S => xbr (x = y) pc off L S h
    | _ => none
  | .if_icmp .ne off => match S with
    | .int y :: .int x :: S => xbr (¬ x = y) pc off L S h
    | _ => none
  | .if_icmp .lt off => match S with
    | .int y :: .int x :: S => xbr (x < y) pc off L S h
    | _ => none
  | .if_icmp .ge off => match S with
    | .int y :: .int x :: S => xbr (y ≤ x) pc off L S h
    | _ => none
  | .if_icmp .gt off => match S with
    | .int y :: .int x :: S => xbr (y < x) pc off L S h
    | _ => none
  | .if_icmp .le off => match S with
    | .int y :: .int x :: S => xbr (x ≤ y) pc off L S h
    | _ => none
  | .ifCond .eq off => match S with
    | .int x :: S => xbr (x = 0) pc off L S h
    | _ => none
  | .ifCond .ne off => match S with
    | .int x :: S => xbr (¬ x = 0) pc off L S h
    | _ => none
  | .ifCond .lt off => match S with
    | .int x :: S => xbr (x < 0) pc off L S h
    | _ => none
  | .ifCond .ge off => match S with
    | .int x :: S => xbr (0 ≤ x) pc off L S h
    | _ => none
  | .ifCond .gt off => match S with
    | .int x :: S => xbr (0 < x) pc off L S h
    | _ => none
  | .ifCond .le off => match S with
    | .int x :: S => xbr (x ≤ 0) pc off L S h
    | _ => none
  | .goto off => if 0 ≤ (pc : Int) + off then xgo (xjmp pc off) L S h else none
  | .ifnull off => match S with
    | .null :: S => if 0 ≤ (pc : Int) + off then xgo (xjmp pc off) L S h else none
    | .ref _ :: S => xgo (pc + 3) L S h
    | _ => none
  | .ifnonnull off => match S with
    | .ref _ :: S => if 0 ≤ (pc : Int) + off then xgo (xjmp pc off) L S h else none
    | .null :: S => xgo (pc + 3) L S h
    | _ => none
  | .tableswitch dflt lo hi offs => match S with
    | .int x :: S =>
      if x.toInt < lo ∨ hi < x.toInt then (if 0 ≤ (pc : Int) + dflt then xgo (xjmp pc dflt) L S h else none)
      else match offs[(x.toInt - lo).toNat]? with
        | some off => if 0 ≤ (pc : Int) + off then xgo (xjmp pc off) L S h else none
        | none => none
    | _ => none
  | .ireturn => match S with
    | [.int x] => if xmr i = some .int then xend (.inl (some (.int x))) h
      else if xmr i = some .boolean ∧ (x = 0 ∨ x = 1) then xend (.inl (some (.int x))) h else none
    | _ => none
  | .areturn => match S with
    | [.ref a] => match xmr i with
      | some (.object _) => xend (.inl (some (.ref a))) h
      | _ => none
    | [.null] => match xmr i with
      | some (.object _) => xend (.inl (some .null)) h
      | _ => none
    | _ => none
  | .return_ => match S with
    | [] => if xmr i = none then xend (.inl none) h else none
    | _ => none
  | .getfield idx => match S with
    | .ref a :: S => match xlk xFL (xmo i) idx with
      | some (c, k, _, _) => if h.1 a = (1 + c, 0) then xgo (pc + 3) L ((if xfk c k = 2 then va_rf (h.2.2.2.2 a k) else .int (h.2.2.1 a k)) :: S) h else none
      | none => none
    | _ => none
  | .putfield idx => match S with
    | .int x :: .ref a :: S => match xlk xFL (xmo i) idx with
      | some (c, k, n, _) => if h.1 a = (1 + c, 0) ∧ (xfk c k = 0 ∨ (xfk c k = 1 ∧ (x = 0 ∨ x = 1))) ∧ ((xT c k).2.2.2 = false ∨ ((xmy i).name = "<init>" ∧ xmo i = c ∧ n = false)) then xgo (pc + 3) L S (h.1, h.2.1, xup2 h.2.2.1 a k x, h.2.2.2.1, h.2.2.2.2) else none
      | none => none
    | .ref q :: .ref a :: S => match xlk xFL (xmo i) idx with
      | some (c, k, n, _) => if h.1 a = (1 + c, 0) ∧ xfk c k = 2 ∧ ((xT c k).2.2.2 = false ∨ ((xmy i).name = "<init>" ∧ xmo i = c ∧ n = false)) then xgo (pc + 3) L S (h.1, h.2.1, h.2.2.1, h.2.2.2.1, xup2 h.2.2.2.2 a k (some q)) else none
      | none => none
    | _ => none
  | .invokestatic idx => match xlk xCL (xmo i) idx with
    | some (j, 0, _) => xinv j pc S
    | _ => none
  | .invokevirtual idx => match xlk xCL (xmo i) idx with
    | some (j, 1, _) => if xrcv j h (S.drop (xmn j - 1)) = true then xinv j pc S else none
    | _ => none
  | .invokespecial idx => match xlk xCL (xmo i) idx with
    | some (j, 2, _) => if xrcv j h (S.drop (xmn j - 1)) = true then xinv j pc S else none
    | some _ => none
    | none => match xlk xOL (xmo i) idx, S with
      | some _, .ref _ :: S => if 1 ≤ d ∧ S.length ≤ 4 then xgo (pc + 3) L S h else none
      | _, _ => none
  | .new idx => match xlk xKL (xmo i) idx with
    | some (c, _) => if c < 8 then xgo (pc + 3) L (.ref h.2.1.1 :: S) (xnew h (1 + c, 0) (xN c)) else if c < 11 then xthr d i pc c S h else none
    | none => none
  | .newarray ty => match S with
    | .int x :: S => if x < 0 ∨ 1000 < x.toNatClampNeg then none else match ty with
      | .int => xgo (pc + 2) L (.ref h.2.1.1 :: S) (xnew h (32, x.toNatClampNeg) x.toNatClampNeg)
      | .boolean => xgo (pc + 2) L (.ref h.2.1.1 :: S) (xnew h (33, x.toNatClampNeg) x.toNatClampNeg)
      | .long => xgo (pc + 2) L (.ref h.2.1.1 :: S) (xnew h (34, x.toNatClampNeg) x.toNatClampNeg)
      | _ => none
    | _ => none
  | .anewarray idx => match S with
    | .int x :: S => match xlk xKL (xmo i) idx with
      | some (c, _) => if x < 0 ∨ 1000 < x.toNatClampNeg ∨ 4 ≤ c then none else xgo (pc + 3) L (.ref h.2.1.1 :: S) (xnew h (40 + c, x.toNatClampNeg) x.toNatClampNeg)
      | none => none
    | _ => none
  | .arraylength => match S with
    | .ref a :: S => if (32 ≤ (h.1 a).1 ∧ (h.1 a).1 < 35) ∨ (40 ≤ (h.1 a).1 ∧ (h.1 a).1 < 44) then xgo (pc + 1) L (.int (Int32.ofNat (h.1 a).2) :: S) h else none
    | .retAddr _ :: S => xgo (pc + 1) L (.int (Int32.ofNat sc.1) :: S) h
    | _ => none
  | .iaload => match S with
    | .int x :: .ref a :: S => if (h.1 a).1 = 32 ∧ ¬ x < 0 ∧ x.toNatClampNeg < (h.1 a).2 then xgo (pc + 1) L (.int (h.2.2.1 a x.toNatClampNeg) :: S) h else none
    | .int x :: .retAddr _ :: S => if ¬ x < 0 ∧ x.toNatClampNeg < sc.1 then xgo (pc + 1) L (.int (sc.2 x.toNatClampNeg) :: S) h else none
    | _ => none
  | .baload => match S with
    | .int x :: .ref a :: S => if (h.1 a).1 = 33 ∧ ¬ x < 0 ∧ x.toNatClampNeg < (h.1 a).2 then xgo (pc + 1) L (.int (h.2.2.1 a x.toNatClampNeg) :: S) h else none
    | _ => none
  | .laload => match S with
    | .int x :: .ref a :: S => if (h.1 a).1 = 34 ∧ ¬ x < 0 ∧ x.toNatClampNeg < (h.1 a).2 then xgo (pc + 1) L (.long (h.2.2.2.1 a x.toNatClampNeg) :: S) h else none
    | _ => none
  | .aaload => match S with
    | .int x :: .ref a :: S => if 40 ≤ (h.1 a).1 ∧ (h.1 a).1 < 44 ∧ ¬ x < 0 ∧ x.toNatClampNeg < (h.1 a).2 then xgo (pc + 1) L (va_rf (h.2.2.2.2 a x.toNatClampNeg) :: S) h else none
    | _ => none
  | .iastore => match S with
    | .int v :: .int x :: .ref a :: S => if (h.1 a).1 = 32 ∧ ¬ x < 0 ∧ x.toNatClampNeg < (h.1 a).2 then xgo (pc + 1) L S (h.1, h.2.1, xup2 h.2.2.1 a x.toNatClampNeg v, h.2.2.2.1, h.2.2.2.2) else none
    | _ => none
  | .bastore => match S with
    | .int v :: .int x :: .ref a :: S => if (h.1 a).1 = 33 ∧ ¬ x < 0 ∧ x.toNatClampNeg < (h.1 a).2 ∧ (v = 0 ∨ v = 1) then xgo (pc + 1) L S (h.1, h.2.1, xup2 h.2.2.1 a x.toNatClampNeg v, h.2.2.2.1, h.2.2.2.2) else none
    | _ => none
  | .lastore => match S with
    | .long v :: .int x :: .ref a :: S => if (h.1 a).1 = 34 ∧ ¬ x < 0 ∧ x.toNatClampNeg < (h.1 a).2 then xgo (pc + 1) L S (h.1, h.2.1, h.2.2.1, xup2 h.2.2.2.1 a x.toNatClampNeg v, h.2.2.2.2) else none
    | _ => none
  | .aastore => match S with
    | .ref q :: .int x :: .ref a :: S => if 40 ≤ (h.1 a).1 ∧ (h.1 a).1 < 44 ∧ ¬ x < 0 ∧ x.toNatClampNeg < (h.1 a).2 ∧ q < h.2.1.1 ∧ h.1 q = ((h.1 a).1 - 39, 0) then xgo (pc + 1) L S (h.1, h.2.1, h.2.2.1, h.2.2.2.1, xup2 h.2.2.2.2 a x.toNatClampNeg (some q)) else none
    | _ => none
  | _ => none
/-- where a thrown e is caught: behind the handler's astore; which local that takes -/
def xhan (i pc e : Nat) : List (Nat × Nat × Nat × Nat) → Option (Nat × Nat)
  | [] => none
  | (a, b, t, c) :: r => if a ≤ pc ∧ pc < b then (match xlk xKL (xmo i) c with
      | some (e', _) => if e' = e then (match xft i t with
          | some (.astore_n k) => some (t + 1, k.val)
          | some (.astore k) => some (t + 2, k)
          | _ => none) else if 8 ≤ e' ∧ e' < 11 then xhan i pc e r else none
      | none => none) else none
abbrev xC1 : Type := Nat → List Value → xH → xR
abbrev xK1 : Type := Nat → xL → List Value → xH → xR
/-- behind a call -/
def xret (i : Nat) (k : xK1) (pc pc' : Nat) (L : xL) (S : List Value) : xR → xR
  | none => none
  | some (.inl none, h) => k pc' L S h
  | some (.inl (some v), h) => k pc' L (v :: S) h
  | some (.inr e, h) => if xmh i = [] then some (.inr e, h) else match xhan i pc e (xmh i) with
    | some (t, n) => if n < L.length then k t (L.set n none) [] h else none
    | none => none
def xdo (i : Nat) (call : xC1) (k : xK1) (pc : Nat) (L : xL) (h : xH) : xA → xR
  | none => none
  | some (.inl (pc', L', S', h')) => k pc' L' S' h'
  | some (.inr (.inl r)) => some r
  | some (.inr (.inr (j, as, pc', S'))) => xret i k pc pc' L S' (call j as h)
def xrun (sc : xS) (d i : Nat) (call : xC1) : Nat → xK1
  | 0 => fun _ _ _ _ => none
  | F + 1 => fun pc L S h => match xft i pc with
    | none => none
    | some ins => xdo i call (xrun sc d i call F) pc L h (xact sc d i ins pc L S h)
def xent (j : Nat) (as : List Value) : xL := as.map some ++ List.replicate (xml j - as.length) none
def xcall (sc : xS) : Nat → Nat → xC1
  | 0, _ => fun _ _ _ => none
  | d + 1, F => fun j as h => if j < xMs.length ∧ as.length = xmn j ∧ as.all xcat1 = true ∧ as.length ≤ xml j then xrun sc d j (xcall sc d F) F 0 (xent j as) [] h else none
/-! more fuel -/
theorem xret_mono {i : Nat} {k k' : xK1} {pc pc' : Nat} {L : xL} {S : List Value} {r r' : xR} (hk : ∀ pc L S h o, k pc L S h = some o → k' pc L S h = some o) (hr : ∀ o, r = some o → r' = some o) {o : xO × xH} (h : xret i k pc pc' L S r = some o) : xret i k' pc pc' L S r' = some o := by
  cases r with
  | none => cases h
  | some q =>
    rw [hr q rfl]
    obtain ⟨q1, q2⟩ := q
    cases q1 with
    | inl v => cases v with
      | none => exact hk _ _ _ _ _ h
      | some v => exact hk _ _ _ _ _ h
    | inr e =>
      simp only [xret] at h ⊢
      split
      · next h1 => rw [if_pos h1] at h; exact h
      · next h1 =>
        rw [if_neg h1] at h
        revert h
        cases xhan i pc e (xmh i) with
        | none => intro h; cases h
        | some q =>
          intro h
          simp only at h ⊢
          split
          · next h2 => rw [if_pos h2] at h; exact hk _ _ _ _ _ h
          · next h2 => rw [if_neg h2] at h; cases h
theorem xdo_mono {i : Nat} {c c' : xC1} {k k' : xK1} {pc : Nat} {L : xL} {h0 : xH} {A : xA} (hk : ∀ pc L S h o, k pc L S h = some o → k' pc L S h = some o) (hc : ∀ j as h o, c j as h = some o → c' j as h = some o) {o : xO × xH} (h : xdo i c k pc L h0 A = some o) : xdo i c' k' pc L h0 A = some o := by
  match A, h with
  | some (.inl (pc', L', S', h')), h => exact hk _ _ _ _ _ h
  | some (.inr (.inl r)), h => exact h
  | some (.inr (.inr (j, as, pc', S'))), h => exact xret_mono hk (fun o h => hc _ _ _ _ h) h
theorem xrun_mono {sc : xS} {d i : Nat} {c c' : xC1} (hc : ∀ j as h o, c j as h = some o → c' j as h = some o) : ∀ (F F' : Nat), F ≤ F' → ∀ pc L S h o, xrun sc d i c F pc L S h = some o → xrun sc d i c' F' pc L S h = some o
  | 0, _, _, _, _, _, _, _, h => by cases h
  | F + 1, 0, hF, _, _, _, _, _, _ => by omega
  | F + 1, F' + 1, hF, pc, L, S, h, o, hh => by
    simp only [xrun] at hh ⊢
    cases hx : xft i pc with
    | none => rw [hx] at hh; cases hh
    | some ins =>
      rw [hx] at hh
      exact xdo_mono (fun pc L S h o q => xrun_mono hc F F' (by omega) pc L S h o q) hc hh
theorem xcall_0 {sc : xS} {F j : Nat} {as : List Value} {h : xH} : xcall sc 0 F j as h = none := by unfold xcall; rfl
theorem xcall_s {sc : xS} {d F j : Nat} {as : List Value} {h : xH} : xcall sc (d + 1) F j as h = if j < xMs.length ∧ as.length = xmn j ∧ as.all xcat1 = true ∧ as.length ≤ xml j then xrun sc d j (xcall sc d F) F 0 (xent j as) [] h else none := by
  conv => lhs; unfold xcall
theorem xcall_mono {sc : xS} (d : Nat) : ∀ (F F' : Nat), F ≤ F' → ∀ j as h o, xcall sc d F j as h = some o → xcall sc d F' j as h = some o := by
  induction d with
  | zero =>
    intro F F' hF j as h o hh
    rw [xcall_0] at hh
    cases hh
  | succ d ih =>
    intro F F' hF j as h o hh
    rw [xcall_s] at hh ⊢
    split
    · next h1 =>
      rw [if_pos h1] at hh
      exact xrun_mono (fun j as h o q => ih F F' hF j as h o q) F F' hF _ _ _ _ _ hh
    · next h1 => rw [if_neg h1] at hh; cases hh
/-! the limit -/
noncomputable def X (sc : xS) (d j : Nat) (as : List Value) (h : xH) : xR :=
  @dite _ (∃ q : Nat × (xO × xH), xcall sc d q.1 j as h = some q.2) (Classical.propDecidable _) (fun p => some (Classical.choose p).2) (fun _ => none)
noncomputable def XR (sc : xS) (d i : Nat) : xK1 := fun pc L S h =>
  @dite _ (∃ q : Nat × (xO × xH), xrun sc d i (xcall sc d q.1) q.1 pc L S h = some q.2) (Classical.propDecidable _) (fun p => some (Classical.choose p).2) (fun _ => none)
theorem X_iff {sc : xS} {d j : Nat} {as : List Value} {h : xH} {o : xO × xH} : X sc d j as h = some o ↔ ∃ F, xcall sc d F j as h = some o := by
  unfold X
  by_cases p : ∃ q : Nat × (xO × xH), xcall sc d q.1 j as h = some q.2
  · rw [dif_pos p]
    constructor
    · intro e
      cases e
      exact ⟨_, Classical.choose_spec p⟩
    · rintro ⟨F, hF⟩
      have h1 := xcall_mono d _ (max F (Classical.choose p).1) (Nat.le_max_left _ _) j as h o hF
      have h2 := xcall_mono d _ (max F (Classical.choose p).1) (Nat.le_max_right _ _) j as h _ (Classical.choose_spec p)
      exact h2.symm.trans h1
  · rw [dif_neg p]
    constructor
    · intro e; cases e
    · rintro ⟨F, hF⟩
      exact absurd ⟨(F, o), hF⟩ p
theorem XR_iff {sc : xS} {d i pc : Nat} {L : xL} {S : List Value} {h : xH} {o : xO × xH} : XR sc d i pc L S h = some o ↔ ∃ F, xrun sc d i (xcall sc d F) F pc L S h = some o := by
  have mono : ∀ F F', F ≤ F' → ∀ o, xrun sc d i (xcall sc d F) F pc L S h = some o → xrun sc d i (xcall sc d F') F' pc L S h = some o :=
    fun F F' hF o q => xrun_mono (fun j as h o q => xcall_mono d F F' hF j as h o q) F F' hF pc L S h o q
  unfold XR
  by_cases p : ∃ q : Nat × (xO × xH), xrun sc d i (xcall sc d q.1) q.1 pc L S h = some q.2
  · rw [dif_pos p]
    constructor
    · intro e
      cases e
      exact ⟨_, Classical.choose_spec p⟩
    · rintro ⟨F, hF⟩
      have h1 := mono _ (max F (Classical.choose p).1) (Nat.le_max_left _ _) o hF
      have h2 := mono _ (max F (Classical.choose p).1) (Nat.le_max_right _ _) _ (Classical.choose_spec p)
      exact h2.symm.trans h1
  · rw [dif_neg p]
    constructor
    · intro e; cases e
    · rintro ⟨F, hF⟩
      exact absurd ⟨(F, o), hF⟩ p
theorem xO_ext {α : Type} {a b : Option α} (h : ∀ o, a = some o ↔ b = some o) : a = b := by
  cases a with
  | none =>
    cases b with
    | none => rfl
    | some y => exact ((h y).mpr rfl)
  | some x => exact ((h x).mp rfl).symm
theorem xdo_fin {sc : xS} {d i pc : Nat} {L : xL} {h0 : xH} {A : xA} {o : xO × xH} (h : xdo i (X sc d) (XR sc d i) pc L h0 A = some o) : ∃ F, xdo i (xcall sc d F) (xrun sc d i (xcall sc d F) F) pc L h0 A = some o := by
  match A, h with
  | some (.inl (pc', L', S', h')), h => exact XR_iff.mp h
  | some (.inr (.inl r)), h => exact ⟨0, h⟩
  | some (.inr (.inr (j, as, pc', S'))), h =>
    simp only [xdo] at h ⊢
    cases hc : X sc d j as h0 with
    | none => rw [hc] at h; cases h
    | some q =>
      rw [hc] at h
      obtain ⟨F1, h1⟩ := X_iff.mp hc
      have key : ∃ F2, xret i (xrun sc d i (xcall sc d F2) F2) pc pc' L S' (some q) = some o := by
        obtain ⟨q1, q2⟩ := q
        cases q1 with
        | inl v => cases v with
          | none => exact XR_iff.mp h
          | some v => exact XR_iff.mp h
        | inr e =>
          simp only [xret] at h ⊢
          split at h
          · next hh => exact ⟨0, by rw [if_pos hh]; exact h⟩
          · next hh =>
            simp only [if_neg hh]
            revert h
            cases xhan i pc e (xmh i) with
            | none => intro h; cases h
            | some z =>
              intro h
              simp only at h ⊢
              split at h
              · next h2 => simp only [if_pos h2]; exact XR_iff.mp h
              · cases h
      obtain ⟨F2, h2⟩ := key
      refine ⟨max F1 F2, xret_mono (fun pc L S h o q => xrun_mono (fun j as h o q => xcall_mono d F2 _ (Nat.le_max_right _ _) j as h o q) F2 _ (Nat.le_max_right _ _) pc L S h o q) (fun o ho => ?_) h2⟩
      cases ho
      exact xcall_mono d F1 _ (Nat.le_max_left _ _) j as h0 q h1
/-- one step -/
theorem XR_eq {sc : xS} {d i pc : Nat} {L : xL} {S : List Value} {h : xH} {ins : Instr} (hf : xft i pc = some ins) : XR sc d i pc L S h = xdo i (X sc d) (XR sc d i) pc L h (xact sc d i ins pc L S h) := by
  refine xO_ext fun o => ⟨fun h1 => ?_, fun h1 => ?_⟩
  · obtain ⟨F, hF⟩ := XR_iff.mp h1
    cases F with
    | zero => cases hF
    | succ F =>
      simp only [xrun, hf] at hF
      exact xdo_mono (fun pc L S h o q => XR_iff.mpr ⟨F + 1, xrun_mono (fun _ _ _ _ q => q) F (F + 1) (Nat.le_succ F) pc L S h o q⟩) (fun j as h o q => X_iff.mpr ⟨F + 1, q⟩) hF
  · obtain ⟨F, hF⟩ := xdo_fin h1
    refine XR_iff.mpr ⟨F + 1, ?_⟩
    simp only [xrun, hf]
    exact xdo_mono (fun pc L S h o q => xrun_mono (fun j as h o q => xcall_mono d F _ (Nat.le_succ F) j as h o q) F F (Nat.le_refl F) pc L S h o q) (fun j as h o q => xcall_mono d F _ (Nat.le_succ F) j as h o q) hF
/-- a call -/
theorem X_eq {sc : xS} {d j : Nat} {as : List Value} {h : xH} (hj : j < xMs.length ∧ as.length = xmn j ∧ as.all xcat1 = true ∧ as.length ≤ xml j) : X sc (d + 1) j as h = XR sc d j 0 (xent j as) [] h := by
  refine xO_ext fun o => ?_
  rw [X_iff, XR_iff]
  simp only [xcall_s, if_pos hj]
