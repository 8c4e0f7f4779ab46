def ov_F0 : u_T := fun k => match k with
  | 0 => ("OverFirst", "tape", "LOverFirst$Tape;", true)
  | 1 => ("OverFirst", "reader", "LOverFirst$Reader;", true)
  | 2 => ("OverFirst", "state", "LOverFirst$State;", true)
  | 3 => ("OverFirst", "history", "LOverFirst$History;", true)
  | 4 => ("OverFirst", "marks", "[LOverFirst$State;", true)
  | 5 => ("OverFirst", "laid", "[Z", true)
  | 6 => ("OverFirst", "goers", "LOverFirst$Goers;", true)
  | 7 => ("OverFirst", "ways", "LOverFirst$Ways;", true)
  | 8 => ("OverFirst", "paces", "LOverFirst$Pace;", true)
  | 9 => ("OverFirst", "waves", "LOverFirst$Wave;", true)
  | 10 => ("OverFirst", "here", "LOverFirst$Town;", false)
  | 11 => ("OverFirst", "spareTown", "LOverFirst$Town;", false)
  | 12 => ("OverFirst", "told", "LOverFirst$Walk;", false)
  | _ => ("OverFirst", "spareWalk", "LOverFirst$Walk;", false)
def ov_y0 : Nat → FieldType := fun k => match k with
  | 0 => (.object "OverFirst$Tape")
  | 1 => (.object "OverFirst$Reader")
  | 2 => (.object "OverFirst$State")
  | 3 => (.object "OverFirst$History")
  | 4 => (.array (.object "OverFirst$State"))
  | 5 => (.array .boolean)
  | 6 => (.object "OverFirst$Goers")
  | 7 => (.object "OverFirst$Ways")
  | 8 => (.object "OverFirst$Pace")
  | 9 => (.object "OverFirst$Wave")
  | 10 => (.object "OverFirst$Town")
  | 11 => (.object "OverFirst$Town")
  | 12 => (.object "OverFirst$Walk")
  | _ => (.object "OverFirst$Walk")
def ov_t0 : Nat → Nat := fun k => match k with
  | 0 => 2
  | 1 => 2
  | 2 => 2
  | 3 => 2
  | 4 => 2
  | 5 => 2
  | 6 => 2
  | 7 => 2
  | 8 => 2
  | 9 => 2
  | 10 => 2
  | 11 => 2
  | 12 => 2
  | _ => 2
theorem ov_n0 : ∀ a, a < 14 → ∀ b, b < 14 → a ≠ b → (ov_F0 a).2.1 ≠ (ov_F0 b).2.1 := by decide +kernel
theorem ov_k0 : ∀ k, k < 14 → parseFieldDescriptor (ov_F0 k).2.2.1 = some (ov_y0 k) := by decide +kernel
theorem ov_u0 : ∀ w ∈ u_ws "OverFirst" ov_F0 14, w ∈ lw_tbl := by
  intro w hw
  have h : (List.range 14).map (u_lay "OverFirst" ov_F0) = [656, 658, 660, 662, 664, 666, 668, 670, 672, 674, 676, 678, 680, 682].filterMap (fun i => lw_tbl[i]?) := by decide +kernel
  rw [u_ws, h] at hw
  obtain ⟨i, -, hi⟩ := List.mem_filterMap.mp hw
  exact List.mem_of_getElem? hi
def ov_F1 : u_T := fun k => match k with
  | 0 => ("OverFirstModel", "thrown", "I", false)
  | 1 => ("OverFirstModel", "tape", "[I", true)
  | 2 => ("OverFirstModel", "taped", "I", false)
  | 3 => ("OverFirstModel", "size", "I", false)
  | 4 => ("OverFirstModel", "sort", "[I", true)
  | 5 => ("OverFirstModel", "place", "[I", true)
  | 6 => ("OverFirstModel", "value", "[J", true)
  | 7 => ("OverFirstModel", "at", "I", false)
  | 8 => ("OverFirstModel", "fault", "I", false)
  | 9 => ("OverFirstModel", "words", "[J", true)
  | 10 => ("OverFirstModel", "towns", "[I", true)
  | 11 => ("OverFirstModel", "op", "[I", true)
  | 12 => ("OverFirstModel", "arg", "[I", true)
  | 13 => ("OverFirstModel", "codes", "I", false)
  | 14 => ("OverFirstModel", "names", "[J", true)
  | 15 => ("OverFirstModel", "told", "I", false)
  | 16 => ("OverFirstModel", "walks", "[I", true)
  | 17 => ("OverFirstModel", "facts", "[I", true)
  | 18 => ("OverFirstModel", "pile", "[I", true)
  | 19 => ("OverFirstModel", "state", "[I", true)
  | 20 => ("OverFirstModel", "undos", "I", false)
  | 21 => ("OverFirstModel", "isMarked", "[Z", true)
  | 22 => ("OverFirstModel", "version", "I", false)
  | 23 => ("OverFirstModel", "worth", "[I", true)
  | 24 => ("OverFirstModel", "stamp", "[I", true)
  | 25 => ("OverFirstModel", "stamped", "I", false)
  | 26 => ("OverFirstModel", "goerKept", "I", false)
  | 27 => ("OverFirstModel", "worstKept", "Z", false)
  | 28 => ("OverFirstModel", "versionKept", "I", false)
  | 29 => ("OverFirstModel", "watched", "I", false)
  | 30 => ("OverFirstModel", "shift", "I", false)
  | 31 => ("OverFirstModel", "chances", "[I", true)
  | 32 => ("OverFirstModel", "chanceStamp", "[I", true)
  | 33 => ("OverFirstModel", "chanceStamped", "I", false)
  | 34 => ("OverFirstModel", "leaves", "I", false)
  | 35 => ("OverFirstModel", "due", "I", false)
  | 36 => ("OverFirstModel", "paces", "[I", true)
  | 37 => ("OverFirstModel", "setsOut", "I", false)
  | 38 => ("OverFirstModel", "onward", "[J", true)
  | 39 => ("OverFirstModel", "back", "[J", true)
  | 40 => ("OverFirstModel", "begins0", "[I", true)
  | 41 => ("OverFirstModel", "bestBegins", "[I", true)
  | 42 => ("OverFirstModel", "bestWave", "I", false)
  | 43 => ("OverFirstModel", "fitMany", "J", false)
  | 44 => ("OverFirstModel", "fitFirst", "I", false)
  | 45 => ("OverFirstModel", "fitCorners", "J", false)
  | 46 => ("OverFirstModel", "g", "J", false)
  | _ => ("OverFirstModel", "standsAt", "[I", true)
def ov_y1 : Nat → FieldType := fun k => match k with
  | 0 => .int
  | 1 => (.array .int)
  | 2 => .int
  | 3 => .int
  | 4 => (.array .int)
  | 5 => (.array .int)
  | 6 => (.array .long)
  | 7 => .int
  | 8 => .int
  | 9 => (.array .long)
  | 10 => (.array .int)
  | 11 => (.array .int)
  | 12 => (.array .int)
  | 13 => .int
  | 14 => (.array .long)
  | 15 => .int
  | 16 => (.array .int)
  | 17 => (.array .int)
  | 18 => (.array .int)
  | 19 => (.array .int)
  | 20 => .int
  | 21 => (.array .boolean)
  | 22 => .int
  | 23 => (.array .int)
  | 24 => (.array .int)
  | 25 => .int
  | 26 => .int
  | 27 => .boolean
  | 28 => .int
  | 29 => .int
  | 30 => .int
  | 31 => (.array .int)
  | 32 => (.array .int)
  | 33 => .int
  | 34 => .int
  | 35 => .int
  | 36 => (.array .int)
  | 37 => .int
  | 38 => (.array .long)
  | 39 => (.array .long)
  | 40 => (.array .int)
  | 41 => (.array .int)
  | 42 => .int
  | 43 => .long
  | 44 => .int
  | 45 => .long
  | 46 => .long
  | _ => (.array .int)
def ov_t1 : Nat → Nat := fun k => match k with
  | 0 => 0
  | 1 => 2
  | 2 => 0
  | 3 => 0
  | 4 => 2
  | 5 => 2
  | 6 => 2
  | 7 => 0
  | 8 => 0
  | 9 => 2
  | 10 => 2
  | 11 => 2
  | 12 => 2
  | 13 => 0
  | 14 => 2
  | 15 => 0
  | 16 => 2
  | 17 => 2
  | 18 => 2
  | 19 => 2
  | 20 => 0
  | 21 => 2
  | 22 => 0
  | 23 => 2
  | 24 => 2
  | 25 => 0
  | 26 => 0
  | 27 => 3
  | 28 => 0
  | 29 => 0
  | 30 => 0
  | 31 => 2
  | 32 => 2
  | 33 => 0
  | 34 => 0
  | 35 => 0
  | 36 => 2
  | 37 => 0
  | 38 => 2
  | 39 => 2
  | 40 => 2
  | 41 => 2
  | 42 => 0
  | 43 => 1
  | 44 => 0
  | 45 => 1
  | 46 => 1
  | _ => 2
theorem ov_n1 : ∀ a, a < 48 → ∀ b, b < 48 → a ≠ b → (ov_F1 a).2.1 ≠ (ov_F1 b).2.1 := by decide +kernel
theorem ov_k1 : ∀ k, k < 48 → parseFieldDescriptor (ov_F1 k).2.2.1 = some (ov_y1 k) := by decide +kernel
theorem ov_u1 : ∀ w ∈ u_ws "OverFirstModel" ov_F1 48, w ∈ lw_tbl := by
  intro w hw
  have h : (List.range 48).map (u_lay "OverFirstModel" ov_F1) = [1575, 1577, 1579, 1581, 1583, 1585, 1587, 1589, 1591, 1593, 1595, 1597, 1599, 1601, 1603, 1605, 1607, 1609, 1611, 1613, 1615, 1617, 1619, 1621, 1623, 1625, 1627, 1629, 1631, 1633, 1635, 1637, 1639, 1641, 1643, 1645, 1647, 1649, 1651, 1653, 1655, 1657, 1659, 1661, 1663, 1665, 1667, 1669].filterMap (fun i => lw_tbl[i]?) := by decide +kernel
  rw [u_ws, h] at hw
  obtain ⟨i, -, hi⟩ := List.mem_filterMap.mp hw
  exact List.mem_of_getElem? hi
def ov_F2 : u_T := fun k => match k with
  | 0 => ("OverFirst$Goers", "allNights", "I", false)
  | 1 => ("OverFirst$Goers", "longestNight", "I", false)
  | 2 => ("OverFirst$Goers", "values", "LOverFirst$Memo;", true)
  | 3 => ("OverFirst$Goers", "chances", "LOverFirst$Memo;", true)
  | 4 => ("OverFirst$Goers", "ahead", "[I", true)
  | 5 => ("OverFirst$Goers", "drawn", "[I", true)
  | 6 => ("OverFirst$Goers", "periods", "[I", true)
  | 7 => ("OverFirst$Goers", "asked", "Z", false)
  | 8 => ("OverFirst$Goers", "town", "LOverFirst$Town;", false)
  | 9 => ("OverFirst$Goers", "known", "J", false)
  | 10 => ("OverFirst$Goers", "goer", "I", false)
  | 11 => ("OverFirst$Goers", "atWorst", "Z", false)
  | 12 => ("OverFirst$Goers", "unit", "I", false)
  | 13 => ("OverFirst$Goers", "home", "I", false)
  | 14 => ("OverFirst$Goers", "street", "I", false)
  | 15 => ("OverFirst$Goers", "setOut", "I", false)
  | 16 => ("OverFirst$Goers", "deadline", "I", false)
  | _ => ("OverFirst$Goers", "tooLong", "I", false)
def ov_y2 : Nat → FieldType := fun k => match k with
  | 0 => .int
  | 1 => .int
  | 2 => (.object "OverFirst$Memo")
  | 3 => (.object "OverFirst$Memo")
  | 4 => (.array .int)
  | 5 => (.array .int)
  | 6 => (.array .int)
  | 7 => .boolean
  | 8 => (.object "OverFirst$Town")
  | 9 => .long
  | 10 => .int
  | 11 => .boolean
  | 12 => .int
  | 13 => .int
  | 14 => .int
  | 15 => .int
  | 16 => .int
  | _ => .int
def ov_t2 : Nat → Nat := fun k => match k with
  | 0 => 0
  | 1 => 0
  | 2 => 2
  | 3 => 2
  | 4 => 2
  | 5 => 2
  | 6 => 2
  | 7 => 3
  | 8 => 2
  | 9 => 1
  | 10 => 0
  | 11 => 3
  | 12 => 0
  | 13 => 0
  | 14 => 0
  | 15 => 0
  | 16 => 0
  | _ => 0
theorem ov_n2 : ∀ a, a < 18 → ∀ b, b < 18 → a ≠ b → (ov_F2 a).2.1 ≠ (ov_F2 b).2.1 := by decide +kernel
theorem ov_k2 : ∀ k, k < 18 → parseFieldDescriptor (ov_F2 k).2.2.1 = some (ov_y2 k) := by decide +kernel
theorem ov_u2 : ∀ w ∈ u_ws "OverFirst$Goers" ov_F2 18, w ∈ lw_tbl := by
  intro w hw
  have h : (List.range 18).map (u_lay "OverFirst$Goers" ov_F2) = [340, 342, 344, 346, 348, 350, 352, 354, 356, 358, 360, 362, 364, 366, 368, 370, 372, 374].filterMap (fun i => lw_tbl[i]?) := by decide +kernel
  rw [u_ws, h] at hw
  obtain ⟨i, -, hi⟩ := List.mem_filterMap.mp hw
  exact List.mem_of_getElem? hi
def ov_F3 : u_T := fun k => match k with
  | 0 => ("OverFirst$History", "size", "I", false)
  | 1 => ("OverFirst$History", "top", "I", false)
  | 2 => ("OverFirst$History", "corners", "[I", true)
  | 3 => ("OverFirst$History", "seconds", "[I", true)
  | 4 => ("OverFirst$History", "runs", "[I", true)
  | _ => ("OverFirst$History", "knowns", "[J", true)
def ov_y3 : Nat → FieldType := fun k => match k with
  | 0 => .int
  | 1 => .int
  | 2 => (.array .int)
  | 3 => (.array .int)
  | 4 => (.array .int)
  | _ => (.array .long)
def ov_t3 : Nat → Nat := fun k => match k with
  | 0 => 0
  | 1 => 0
  | 2 => 2
  | 3 => 2
  | 4 => 2
  | _ => 2
theorem ov_n3 : ∀ a, a < 6 → ∀ b, b < 6 → a ≠ b → (ov_F3 a).2.1 ≠ (ov_F3 b).2.1 := by decide +kernel
theorem ov_k3 : ∀ k, k < 6 → parseFieldDescriptor (ov_F3 k).2.2.1 = some (ov_y3 k) := by decide +kernel
theorem ov_u3 : ∀ w ∈ u_ws "OverFirst$History" ov_F3 6, w ∈ lw_tbl := by
  intro w hw
  have h : (List.range 6).map (u_lay "OverFirst$History" ov_F3) = [282, 284, 286, 288, 290, 292].filterMap (fun i => lw_tbl[i]?) := by decide +kernel
  rw [u_ws, h] at hw
  obtain ⟨i, -, hi⟩ := List.mem_filterMap.mp hw
  exact List.mem_of_getElem? hi
def ov_F4 : u_T := fun k => match k with
  | 0 => ("OverFirst$Memo", "cells", "[J", false)
  | 1 => ("OverFirst$Memo", "editions", "[I", true)
  | _ => ("OverFirst$Memo", "newest", "I", false)
def ov_y4 : Nat → FieldType := fun k => match k with
  | 0 => (.array .long)
  | 1 => (.array .int)
  | _ => .int
def ov_t4 : Nat → Nat := fun k => match k with
  | 0 => 2
  | 1 => 2
  | _ => 0
theorem ov_n4 : ∀ a, a < 3 → ∀ b, b < 3 → a ≠ b → (ov_F4 a).2.1 ≠ (ov_F4 b).2.1 := by decide +kernel
theorem ov_k4 : ∀ k, k < 3 → parseFieldDescriptor (ov_F4 k).2.2.1 = some (ov_y4 k) := by decide +kernel
theorem ov_u4 : ∀ w ∈ u_ws "OverFirst$Memo" ov_F4 3, w ∈ lw_tbl := by
  intro w hw
  have h : (List.range 3).map (u_lay "OverFirst$Memo" ov_F4) = [312, 314, 316].filterMap (fun i => lw_tbl[i]?) := by decide +kernel
  rw [u_ws, h] at hw
  obtain ⟨i, -, hi⟩ := List.mem_filterMap.mp hw
  exact List.mem_of_getElem? hi
def ov_F5 : u_T := fun k => match k with
  | 0 => ("OverFirst$Pace", "stands", "I", false)
  | 1 => ("OverFirst$Pace", "end", "I", false)
  | 2 => ("OverFirst$Pace", "streets", "[I", true)
  | 3 => ("OverFirst$Pace", "costs", "LOverFirst$Memo;", true)
  | 4 => ("OverFirst$Pace", "town", "LOverFirst$Town;", false)
  | 5 => ("OverFirst$Pace", "walk", "LOverFirst$Walk;", false)
  | 6 => ("OverFirst$Pace", "allowed", "I", false)
  | 7 => ("OverFirst$Pace", "solvedFor", "I", false)
  | _ => ("OverFirst$Pace", "can", "Z", false)
def ov_y5 : Nat → FieldType := fun k => match k with
  | 0 => .int
  | 1 => .int
  | 2 => (.array .int)
  | 3 => (.object "OverFirst$Memo")
  | 4 => (.object "OverFirst$Town")
  | 5 => (.object "OverFirst$Walk")
  | 6 => .int
  | 7 => .int
  | _ => .boolean
def ov_t5 : Nat → Nat := fun k => match k with
  | 0 => 0
  | 1 => 0
  | 2 => 2
  | 3 => 2
  | 4 => 2
  | 5 => 2
  | 6 => 0
  | 7 => 0
  | _ => 3
theorem ov_n5 : ∀ a, a < 9 → ∀ b, b < 9 → a ≠ b → (ov_F5 a).2.1 ≠ (ov_F5 b).2.1 := by decide +kernel
theorem ov_k5 : ∀ k, k < 9 → parseFieldDescriptor (ov_F5 k).2.2.1 = some (ov_y5 k) := by decide +kernel
theorem ov_u5 : ∀ w ∈ u_ws "OverFirst$Pace" ov_F5 9, w ∈ lw_tbl := by
  intro w hw
  have h : (List.range 9).map (u_lay "OverFirst$Pace" ov_F5) = [427, 429, 431, 433, 435, 437, 439, 441, 443].filterMap (fun i => lw_tbl[i]?) := by decide +kernel
  rw [u_ws, h] at hw
  obtain ⟨i, -, hi⟩ := List.mem_filterMap.mp hw
  exact List.mem_of_getElem? hi
def ov_F6 : u_T := fun k => match k with
  | 0 => ("OverFirst$Reader", "tape", "LOverFirst$Tape;", true)
  | 1 => ("OverFirst$Reader", "town", "LOverFirst$Town;", false)
  | 2 => ("OverFirst$Reader", "fault", "I", false)
  | _ => ("OverFirst$Reader", "number", "I", false)
def ov_y6 : Nat → FieldType := fun k => match k with
  | 0 => (.object "OverFirst$Tape")
  | 1 => (.object "OverFirst$Town")
  | 2 => .int
  | _ => .int
def ov_t6 : Nat → Nat := fun k => match k with
  | 0 => 2
  | 1 => 2
  | 2 => 0
  | _ => 0
theorem ov_n6 : ∀ a, a < 4 → ∀ b, b < 4 → a ≠ b → (ov_F6 a).2.1 ≠ (ov_F6 b).2.1 := by decide +kernel
theorem ov_k6 : ∀ k, k < 4 → parseFieldDescriptor (ov_F6 k).2.2.1 = some (ov_y6 k) := by decide +kernel
theorem ov_u6 : ∀ w ∈ u_ws "OverFirst$Reader" ov_F6 4, w ∈ lw_tbl := by
  intro w hw
  have h : (List.range 4).map (u_lay "OverFirst$Reader" ov_F6) = [211, 213, 215, 217].filterMap (fun i => lw_tbl[i]?) := by decide +kernel
  rw [u_ws, h] at hw
  obtain ⟨i, -, hi⟩ := List.mem_filterMap.mp hw
  exact List.mem_of_getElem? hi
def ov_F7 : u_T := fun k => match k with
  | 0 => ("OverFirst$State", "corner", "I", false)
  | 1 => ("OverFirst$State", "second", "I", false)
  | 2 => ("OverFirst$State", "runs", "I", false)
  | 3 => ("OverFirst$State", "known", "J", false)
  | 4 => ("OverFirst$State", "tries", "I", false)
  | 5 => ("OverFirst$State", "sightings", "I", false)
  | 6 => ("OverFirst$State", "tryCorners", "[I", true)
  | 7 => ("OverFirst$State", "tryWaits", "[I", true)
  | 8 => ("OverFirst$State", "sightingCorners", "[I", true)
  | _ => ("OverFirst$State", "sightingSeconds", "[I", true)
def ov_y7 : Nat → FieldType := fun k => match k with
  | 0 => .int
  | 1 => .int
  | 2 => .int
  | 3 => .long
  | 4 => .int
  | 5 => .int
  | 6 => (.array .int)
  | 7 => (.array .int)
  | 8 => (.array .int)
  | _ => (.array .int)
def ov_t7 : Nat → Nat := fun k => match k with
  | 0 => 0
  | 1 => 0
  | 2 => 0
  | 3 => 1
  | 4 => 0
  | 5 => 0
  | 6 => 2
  | 7 => 2
  | 8 => 2
  | _ => 2
theorem ov_n7 : ∀ a, a < 10 → ∀ b, b < 10 → a ≠ b → (ov_F7 a).2.1 ≠ (ov_F7 b).2.1 := by decide +kernel
theorem ov_k7 : ∀ k, k < 10 → parseFieldDescriptor (ov_F7 k).2.2.1 = some (ov_y7 k) := by decide +kernel
theorem ov_u7 : ∀ w ∈ u_ws "OverFirst$State" ov_F7 10, w ∈ lw_tbl := by
  intro w hw
  have h : (List.range 10).map (u_lay "OverFirst$State" ov_F7) = [247, 249, 251, 253, 255, 257, 259, 261, 263, 265].filterMap (fun i => lw_tbl[i]?) := by decide +kernel
  rw [u_ws, h] at hw
  obtain ⟨i, -, hi⟩ := List.mem_filterMap.mp hw
  exact List.mem_of_getElem? hi
def ov_F8 : u_T := fun k => match k with
  | 0 => ("OverFirst$Tape", "signs", "[C", true)
  | 1 => ("OverFirst$Tape", "length", "I", false)
  | 2 => ("OverFirst$Tape", "type", "I", false)
  | 3 => ("OverFirst$Tape", "place", "I", false)
  | 4 => ("OverFirst$Tape", "number", "I", false)
  | 5 => ("OverFirst$Tape", "sign", "C", false)
  | 6 => ("OverFirst$Tape", "word", "J", false)
  | _ => ("OverFirst$Tape", "next", "I", false)
def ov_y8 : Nat → FieldType := fun k => match k with
  | 0 => (.array .char)
  | 1 => .int
  | 2 => .int
  | 3 => .int
  | 4 => .int
  | 5 => .char
  | 6 => .long
  | _ => .int
def ov_t8 : Nat → Nat := fun k => match k with
  | 0 => 2
  | 1 => 0
  | 2 => 0
  | 3 => 0
  | 4 => 0
  | 5 => 4
  | 6 => 1
  | _ => 0
theorem ov_n8 : ∀ a, a < 8 → ∀ b, b < 8 → a ≠ b → (ov_F8 a).2.1 ≠ (ov_F8 b).2.1 := by decide +kernel
theorem ov_k8 : ∀ k, k < 8 → parseFieldDescriptor (ov_F8 k).2.2.1 = some (ov_y8 k) := by decide +kernel
theorem ov_u8 : ∀ w ∈ u_ws "OverFirst$Tape" ov_F8 8, w ∈ lw_tbl := by
  intro w hw
  have h : (List.range 8).map (u_lay "OverFirst$Tape" ov_F8) = [183, 185, 187, 189, 191, 193, 195, 197].filterMap (fun i => lw_tbl[i]?) := by decide +kernel
  rw [u_ws, h] at hw
  obtain ⟨i, -, hi⟩ := List.mem_filterMap.mp hw
  exact List.mem_of_getElem? hi
def ov_F9 : u_T := fun k => match k with
  | 0 => ("OverFirst$Town", "wide", "I", false)
  | 1 => ("OverFirst$Town", "high", "I", false)
  | 2 => ("OverFirst$Town", "kind", "[I", true)
  | 3 => ("OverFirst$Town", "round", "[I", true)
  | 4 => ("OverFirst$Town", "start", "[I", true)
  | 5 => ("OverFirst$Town", "span", "[I", true)
  | 6 => ("OverFirst$Town", "bars", "[I", true)
  | 7 => ("OverFirst$Town", "setting", "[I", true)
  | 8 => ("OverFirst$Town", "child", "Z", false)
  | 9 => ("OverFirst$Town", "lightCount", "I", false)
  | 10 => ("OverFirst$Town", "common", "I", false)
  | 11 => ("OverFirst$Town", "ruleCount", "I", false)
  | 12 => ("OverFirst$Town", "open", "[I", true)
  | 13 => ("OverFirst$Town", "names", "[J", true)
  | 14 => ("OverFirst$Town", "ruleEnds", "[I", true)
  | 15 => ("OverFirst$Town", "code", "[I", true)
  | 16 => ("OverFirst$Town", "codeLength", "I", false)
  | _ => ("OverFirst$Town", "stack", "[I", true)
def ov_y9 : Nat → FieldType := fun k => match k with
  | 0 => .int
  | 1 => .int
  | 2 => (.array .int)
  | 3 => (.array .int)
  | 4 => (.array .int)
  | 5 => (.array .int)
  | 6 => (.array .int)
  | 7 => (.array .int)
  | 8 => .boolean
  | 9 => .int
  | 10 => .int
  | 11 => .int
  | 12 => (.array .int)
  | 13 => (.array .long)
  | 14 => (.array .int)
  | 15 => (.array .int)
  | 16 => .int
  | _ => (.array .int)
def ov_t9 : Nat → Nat := fun k => match k with
  | 0 => 0
  | 1 => 0
  | 2 => 2
  | 3 => 2
  | 4 => 2
  | 5 => 2
  | 6 => 2
  | 7 => 2
  | 8 => 3
  | 9 => 0
  | 10 => 0
  | 11 => 0
  | 12 => 2
  | 13 => 2
  | 14 => 2
  | 15 => 2
  | 16 => 0
  | _ => 2
theorem ov_n9 : ∀ a, a < 18 → ∀ b, b < 18 → a ≠ b → (ov_F9 a).2.1 ≠ (ov_F9 b).2.1 := by decide +kernel
theorem ov_k9 : ∀ k, k < 18 → parseFieldDescriptor (ov_F9 k).2.2.1 = some (ov_y9 k) := by decide +kernel
theorem ov_u9 : ∀ w ∈ u_ws "OverFirst$Town" ov_F9 18, w ∈ lw_tbl := by
  intro w hw
  have h : (List.range 18).map (u_lay "OverFirst$Town" ov_F9) = [546, 548, 550, 552, 554, 556, 558, 560, 562, 564, 566, 568, 570, 572, 574, 576, 578, 580].filterMap (fun i => lw_tbl[i]?) := by decide +kernel
  rw [u_ws, h] at hw
  obtain ⟨i, -, hi⟩ := List.mem_filterMap.mp hw
  exact List.mem_of_getElem? hi
def ov_F10 : u_T := fun k => match k with
  | 0 => ("OverFirst$Walk", "count", "I", false)
  | 1 => ("OverFirst$Walk", "end", "I", false)
  | 2 => ("OverFirst$Walk", "corners", "[I", true)
  | 3 => ("OverFirst$Walk", "ways", "[I", true)
  | _ => ("OverFirst$Walk", "seconds", "[I", true)
def ov_y10 : Nat → FieldType := fun k => match k with
  | 0 => .int
  | 1 => .int
  | 2 => (.array .int)
  | 3 => (.array .int)
  | _ => (.array .int)
def ov_t10 : Nat → Nat := fun k => match k with
  | 0 => 0
  | 1 => 0
  | 2 => 2
  | 3 => 2
  | _ => 2
theorem ov_n10 : ∀ a, a < 5 → ∀ b, b < 5 → a ≠ b → (ov_F10 a).2.1 ≠ (ov_F10 b).2.1 := by decide +kernel
theorem ov_k10 : ∀ k, k < 5 → parseFieldDescriptor (ov_F10 k).2.2.1 = some (ov_y10 k) := by decide +kernel
theorem ov_u10 : ∀ w ∈ u_ws "OverFirst$Walk" ov_F10 5, w ∈ lw_tbl := by
  intro w hw
  have h : (List.range 5).map (u_lay "OverFirst$Walk" ov_F10) = [600, 602, 604, 606, 608].filterMap (fun i => lw_tbl[i]?) := by decide +kernel
  rw [u_ws, h] at hw
  obtain ⟨i, -, hi⟩ := List.mem_filterMap.mp hw
  exact List.mem_of_getElem? hi
def ov_F11 : u_T := fun k => match k with
  | 0 => ("OverFirst$Wave", "most", "I", false)
  | 1 => ("OverFirst$Wave", "beginnings", "[I", true)
  | 2 => ("OverFirst$Wave", "begins", "[I", true)
  | 3 => ("OverFirst$Wave", "greens", "[J", true)
  | 4 => ("OverFirst$Wave", "lights", "I", false)
  | 5 => ("OverFirst$Wave", "round", "I", false)
  | 6 => ("OverFirst$Wave", "street", "I", false)
  | 7 => ("OverFirst$Wave", "bothWays", "Z", false)
  | _ => ("OverFirst$Wave", "solvedFor", "I", false)
def ov_y11 : Nat → FieldType := fun k => match k with
  | 0 => .int
  | 1 => (.array .int)
  | 2 => (.array .int)
  | 3 => (.array .long)
  | 4 => .int
  | 5 => .int
  | 6 => .int
  | 7 => .boolean
  | _ => .int
def ov_t11 : Nat → Nat := fun k => match k with
  | 0 => 0
  | 1 => 2
  | 2 => 2
  | 3 => 2
  | 4 => 0
  | 5 => 0
  | 6 => 0
  | 7 => 3
  | _ => 0
theorem ov_n11 : ∀ a, a < 9 → ∀ b, b < 9 → a ≠ b → (ov_F11 a).2.1 ≠ (ov_F11 b).2.1 := by decide +kernel
theorem ov_k11 : ∀ k, k < 9 → parseFieldDescriptor (ov_F11 k).2.2.1 = some (ov_y11 k) := by decide +kernel
theorem ov_u11 : ∀ w ∈ u_ws "OverFirst$Wave" ov_F11 9, w ∈ lw_tbl := by
  intro w hw
  have h : (List.range 9).map (u_lay "OverFirst$Wave" ov_F11) = [463, 465, 467, 469, 471, 473, 475, 477, 479].filterMap (fun i => lw_tbl[i]?) := by decide +kernel
  rw [u_ws, h] at hw
  obtain ⟨i, -, hi⟩ := List.mem_filterMap.mp hw
  exact List.mem_of_getElem? hi
def ov_F12 : u_T := fun k => match k with
  | 0 => ("OverFirst$Ways", "fitting", "I", false)
  | 1 => ("OverFirst$Ways", "firstFitting", "J", false)
  | 2 => ("OverFirst$Ways", "common", "J", false)
  | 3 => ("OverFirst$Ways", "town", "LOverFirst$Town;", false)
  | 4 => ("OverFirst$Ways", "state", "LOverFirst$State;", false)
  | 5 => ("OverFirst$Ways", "arrivals", "[I", true)
  | _ => ("OverFirst$Ways", "turned", "[I", true)
def ov_y12 : Nat → FieldType := fun k => match k with
  | 0 => .int
  | 1 => .long
  | 2 => .long
  | 3 => (.object "OverFirst$Town")
  | 4 => (.object "OverFirst$State")
  | 5 => (.array .int)
  | _ => (.array .int)
def ov_t12 : Nat → Nat := fun k => match k with
  | 0 => 0
  | 1 => 1
  | 2 => 1
  | 3 => 2
  | 4 => 2
  | 5 => 2
  | _ => 2
theorem ov_n12 : ∀ a, a < 7 → ∀ b, b < 7 → a ≠ b → (ov_F12 a).2.1 ≠ (ov_F12 b).2.1 := by decide +kernel
theorem ov_k12 : ∀ k, k < 7 → parseFieldDescriptor (ov_F12 k).2.2.1 = some (ov_y12 k) := by decide +kernel
theorem ov_u12 : ∀ w ∈ u_ws "OverFirst$Ways" ov_F12 7, w ∈ lw_tbl := by
  intro w hw
  have h : (List.range 7).map (u_lay "OverFirst$Ways" ov_F12) = [392, 394, 396, 398, 400, 402, 404].filterMap (fun i => lw_tbl[i]?) := by decide +kernel
  rw [u_ws, h] at hw
  obtain ⟨i, -, hi⟩ := List.mem_filterMap.mp hw
  exact List.mem_of_getElem? hi
def ov_cl : List vw_C := [("OverFirst", ov_F0, 14), ("OverFirstModel", ov_F1, 48), ("OverFirst$Goers", ov_F2, 18), ("OverFirst$History", ov_F3, 6), ("OverFirst$Memo", ov_F4, 3), ("OverFirst$Pace", ov_F5, 9), ("OverFirst$Reader", ov_F6, 4), ("OverFirst$State", ov_F7, 10), ("OverFirst$Tape", ov_F8, 8), ("OverFirst$Town", ov_F9, 18), ("OverFirst$Walk", ov_F10, 5), ("OverFirst$Wave", ov_F11, 9), ("OverFirst$Ways", ov_F12, 7)]
def ov_nf : Nat → Nat := fun k => match k with
  | 0 => 14
  | 1 => 48
  | 2 => 18
  | 3 => 6
  | 4 => 3
  | 5 => 9
  | 6 => 4
  | 7 => 10
  | 8 => 8
  | 9 => 18
  | 10 => 5
  | 11 => 9
  | _ => 7
def ov_ft : Nat → Nat → Nat := fun c => match c with
  | 0 => ov_t0
  | 1 => ov_t1
  | 2 => ov_t2
  | 3 => ov_t3
  | 4 => ov_t4
  | 5 => ov_t5
  | 6 => ov_t6
  | 7 => ov_t7
  | 8 => ov_t8
  | 9 => ov_t9
  | 10 => ov_t10
  | 11 => ov_t11
  | _ => ov_t12
