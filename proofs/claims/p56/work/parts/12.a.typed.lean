/-! TYPED HEAPS: the cells that the two constructors leave; shapes fixed, contents by types -/
def SHP : List (Nat × Nat) := [(0, 10), (0, 8), (1, 2), (0, 5), (0, 6), (1, 0), (1, 0), (1, 0), (0, 2), (1, 0), (0, 1), (1, 0), (1, 0), (1, 0), (0, 9), (1, 0), (1, 0), (1, 0), (0, 4), (3, 4), (0, 3), (1, 0), (1, 0), (1, 0), (1, 0), (1, 0), (1, 0), (1, 0), (0, 0), (0, 3), (1, 0), (1, 0), (0, 0), (0, 3), (1, 0), (1, 0), (0, 0), (0, 3), (1, 0), (1, 0), (0, 0), (0, 3), (1, 0), (1, 0), (0, 4), (3, 4), (0, 3), (1, 0), (1, 0), (1, 0), (1, 0), (1, 0), (1, 0), (1, 0), (0, 0), (0, 3), (1, 0), (1, 0), (0, 0), (0, 3), (1, 0), (1, 0), (0, 0), (0, 3), (1, 0), (1, 0), (0, 0), (0, 3), (1, 0), (1, 0), (3, 5), (1, 3), (0, 4), (3, 4), (0, 3), (1, 0), (1, 0), (1, 0), (1, 0), (1, 0), (1, 0), (1, 0), (0, 0), (0, 3), (1, 0), (1, 0), (0, 0), (0, 3), (1, 0), (1, 0), (0, 0), (0, 3), (1, 0), (1, 0), (0, 0), (0, 3), (1, 0), (1, 0), (0, 4), (3, 4), (0, 3), (1, 0), (1, 0), (1, 0), (1, 0), (1, 0), (1, 0), (1, 0), (0, 0), (0, 3), (1, 0), (1, 0), (0, 0), (0, 3), (1, 0), (1, 0), (0, 0), (0, 3), (1, 0), (1, 0), (0, 0), (0, 3), (1, 0), (1, 0), (0, 4), (3, 4), (0, 3), (1, 0), (1, 0), (1, 0), (1, 0), (1, 0), (1, 0), (1, 0), (0, 0), (0, 3), (1, 0), (1, 0), (0, 0), (0, 3), (1, 0), (1, 0), (0, 0), (0, 3), (1, 0), (1, 0), (0, 0), (0, 3), (1, 0), (1, 0), (3, 6), (0, 7), (2, 1), (0, 7), (2, 1), (0, 7), (2, 1), (0, 7), (2, 1), (0, 11), (1, 0), (1, 0), (1, 3), (1, 2), (1, 0), (1, 0), (1, 0), (1, 0), (1, 0), (1, 0), (1, 0), (1, 0), (1, 0), (1, 0), (1, 0), (1, 0), (1, 0), (1, 0), (1, 0), (2, 1), (2, 1)]
def TAGS : List Nat := [0, 1, 2, 3, 4, 5, 6, 7, 8, 9, 10, 11, 12, 13, 14, 15, 16, 17, 18, 19, 20, 21, 22, 23, 24, 25, 26, 27, 28, 20, 21, 22, 28, 20, 21, 22, 28, 20, 21, 22, 28, 20, 21, 22, 18, 19, 20, 21, 22, 23, 24, 25, 26, 27, 28, 20, 21, 22, 28, 20, 21, 22, 28, 20, 21, 22, 28, 20, 21, 22, 29, 30, 31, 19, 20, 21, 22, 23, 24, 25, 26, 27, 28, 20, 21, 22, 28, 20, 21, 22, 28, 20, 21, 22, 28, 20, 21, 22, 31, 19, 20, 21, 22, 23, 24, 25, 26, 27, 28, 20, 21, 22, 28, 20, 21, 22, 28, 20, 21, 22, 28, 20, 21, 22, 31, 19, 20, 21, 22, 23, 24, 25, 26, 27, 28, 20, 21, 22, 28, 20, 21, 22, 28, 20, 21, 22, 28, 20, 21, 22, 32, 33, 34, 33, 34, 33, 34, 33, 34, 35, 36, 37, 38, 39, 40, 41, 42, 43, 44, 45, 46, 47, 48, 49, 50, 51, 52, 53, 54, 55, 56]
/-- tag: kind, class or type, length, types of its places (0 int, 1 long, each with its bounds; 2 a cell of that tag) -/
def TT : List (Nat × Nat × Nat × List (Nat × Int × Int)) := [
  (0, 10, 11, [(2, 1, 0), (2, 3, 0), (2, 4, 0), (2, 8, 0), (2, 10, 0), (2, 14, 0), (2, 32, 0), (2, 29, 0), (2, 30, 0), (2, 18, 0), (2, 18, 0)]), -- 0 DoorSchool
  (0, 8, 2, [(2, 2, 0), (0, 0, 1600)]), -- 1 Tape
  (1, 2, 1600, [(0, (-128), 127)]), -- 2 Tape.bytes
  (0, 5, 7, [(2, 1, 0), (0, 0, 4), (0, 0, 1600), (0, 0, 1600), (0, (-2147483648), 1000000), (0, 0, 3), (0, (-1), 1600)]), -- 3 Reader
  (0, 6, 5, [(0, 0, 16), (0, 0, 81), (2, 5, 0), (2, 6, 0), (2, 7, 0)]), -- 4 Rules
  (1, 0, 81, [(0, 0, 15)]), -- 5 Rules.signs
  (1, 0, 81, [(0, 0, 15)]), -- 6 Rules.there
  (1, 0, 81, [(0, (-2147483648), 2147483647)]), -- 7 Rules.deeds
  (0, 2, 2, [(2, 4, 0), (2, 9, 0)]), -- 8 Learner
  (1, 0, 80, [(0, (-2147483648), 2147483647)]), -- 9 Learner.apart
  (0, 1, 6, [(2, 11, 0), (2, 12, 0), (2, 13, 0), (0, 0, 4), (0, 0, 4), (0, (-2147483648), 2147483647)]), -- 10 Hanging
  (1, 0, 16, [(0, (-2147483648), 2147483647)]), -- 11 Hanging.amiss
  (1, 0, 4, [(0, 0, 3)]), -- 12 Hanging.row
  (1, 0, 4, [(0, 0, 3)]), -- 13 Hanging.firstRow
  (0, 9, 5, [(2, 15, 0), (2, 16, 0), (2, 17, 0), (0, (-1), 4), (0, 0, 1000)]), -- 14 Timetable
  (1, 0, 54, [(0, (-2147483648), 2147483647)]), -- 15 Timetable.busy
  (1, 0, 6, [(0, 0, 54)]), -- 16 Timetable.begins
  (1, 0, 6, [(0, 0, 54)]), -- 17 Timetable.firstBegins
  (0, 4, 16, [(0, 0, 1601), (0, (-1), 4), (0, (-1), 3), (0, 0, 4), (2, 19, 0), (2, 20, 0), (0, 0, 15), (0, 0, 15), (0, 0, 4), (2, 23, 0), (2, 24, 0), (0, 0, 6), (2, 25, 0), (2, 26, 0), (0, 0, 60), (2, 27, 0)]), -- 18 Plan
  (3, 4, 4, [(2, 28, 0)]), -- 19 Plan.doors
  (0, 3, 3, [(2, 21, 0), (2, 22, 0), (0, 0, 13)]), -- 20 Lessons
  (1, 0, 13, [(0, 0, 15)]), -- 21 Lessons.knocks
  (1, 0, 13, [(0, 0, 1)]), -- 22 Lessons.opens
  (1, 0, 4, [(0, 0, 15)]), -- 23 Plan.houseSigns
  (1, 0, 4, [(0, 0, 15)]), -- 24 Plan.houseThere
  (1, 0, 6, [(0, 0, 9)]), -- 25 Plan.takes
  (1, 0, 6, [(0, 0, 63)]), -- 26 Plan.ahead
  (1, 0, 60, [(0, 0, 3)]), -- 27 Plan.taughtDoors
  (0, 0, 4, [(2, 20, 0), (0, 0, 2), (0, 0, 50), (0, (-1), 3)]), -- 28 Door
  (3, 5, 3, [(2, 31, 0)]), -- 29 DoorSchool.images
  (1, 3, 3, [(0, 0, 1)]), -- 30 DoorSchool.imaged
  (0, 4, 16, [(0, 0, 1601), (0, 0, 4), (0, (-1), 3), (0, 0, 4), (2, 19, 0), (2, 20, 0), (0, 0, 15), (0, 0, 15), (0, 0, 4), (2, 23, 0), (2, 24, 0), (0, 0, 6), (2, 25, 0), (2, 26, 0), (0, 0, 60), (2, 27, 0)]), -- 31 PlanI
  (3, 6, 4, [(2, 33, 0)]), -- 32 DoorSchool.slots
  (0, 7, 4, [(2, 34, 0), (0, 0, 1), (0, 0, 3), (0, 0, 60)]), -- 33 Slot
  (2, 1, 60, [(1, (-9223372036854775808), 9223372036854775807)]), -- 34 Slot.numbers
  (0, 11, 36, [(0, (-2147483648), 2147483647), (2, 36, 0), (2, 37, 0), (2, 38, 0), (2, 39, 0), (0, 0, 1600), (2, 40, 0), (0, 0, 1600), (0, 0, 1600), (0, 0, 1600), (0, 0, 4), (0, 0, 99999), (0, 0, 3), (0, (-1), 1600), (2, 41, 0), (2, 42, 0), (2, 43, 0), (2, 44, 0), (0, 0, 81), (2, 45, 0), (2, 46, 0), (0, 0, 17), (0, (-2147483648), 2147483647), (0, (-2147483648), 2147483647), (2, 47, 0), (2, 48, 0), (0, (-2147483648), 2147483647), (2, 49, 0), (2, 50, 0), (2, 51, 0), (2, 52, 0), (0, (-2147483648), 2147483647), (2, 53, 0), (2, 54, 0), (2, 55, 0), (2, 56, 0)]), -- 35 DoorSchoolModel
  (1, 0, 226, [(0, 0, 4), (0, 0, 3), (0, 0, 4), (0, 0, 12), (0, 0, 4), (0, 0, 6), (0, 0, 60), (0, 0, 1600), (0, 0, 15), (0, 0, 15), (0, 0, 2), (0, 0, 50), (0, 0, 12), (0, (-1), 3), (0, 0, 2), (0, 0, 50), (0, 0, 12), (0, (-1), 3), (0, 0, 2), (0, 0, 50), (0, 0, 12), (0, (-1), 3), (0, 0, 2), (0, 0, 50), (0, 0, 12), (0, (-1), 3), (0, 0, 15), (0, 0, 1), (0, 0, 15), (0, 0, 1), (0, 0, 15), (0, 0, 1), (0, 0, 15), (0, 0, 1), (0, 0, 15), (0, 0, 1), (0, 0, 15), (0, 0, 1), (0, 0, 15), (0, 0, 1), (0, 0, 15), (0, 0, 1), (0, 0, 15), (0, 0, 1), (0, 0, 15), (0, 0, 1), (0, 0, 15), (0, 0, 1), (0, 0, 15), (0, 0, 1), (0, 0, 15), (0, 0, 1), (0, 0, 15), (0, 0, 1), (0, 0, 15), (0, 0, 1), (0, 0, 15), (0, 0, 1), (0, 0, 15), (0, 0, 1), (0, 0, 15), (0, 0, 1), (0, 0, 15), (0, 0, 1), (0, 0, 15), (0, 0, 1), (0, 0, 15), (0, 0, 1), (0, 0, 15), (0, 0, 1), (0, 0, 15), (0, 0, 1), (0, 0, 15), (0, 0, 1), (0, 0, 15), (0, 0, 1), (0, 0, 15), (0, 0, 1), (0, 0, 15), (0, 0, 1), (0, 0, 15), (0, 0, 1), (0, 0, 15), (0, 0, 1), (0, 0, 15), (0, 0, 1), (0, 0, 15), (0, 0, 1), (0, 0, 15), (0, 0, 1), (0, 0, 15), (0, 0, 1), (0, 0, 15), (0, 0, 1), (0, 0, 15), (0, 0, 1), (0, 0, 15), (0, 0, 1), (0, 0, 15), (0, 0, 1), (0, 0, 15), (0, 0, 1), (0, 0, 15), (0, 0, 1), (0, 0, 15), (0, 0, 1), (0, 0, 15), (0, 0, 1), (0, 0, 15), (0, 0, 1), (0, 0, 15), (0, 0, 1), (0, 0, 15), (0, 0, 1), (0, 0, 15), (0, 0, 1), (0, 0, 15), (0, 0, 1), (0, 0, 15), (0, 0, 1), (0, 0, 15), (0, 0, 1), (0, 0, 15), (0, 0, 1), (0, 0, 15), (0, 0, 1), (0, 0, 15), (0, 0, 1), (0, 0, 15), (0, 0, 1), (0, 0, 15), (0, 0, 1), (0, 0, 15), (0, 0, 1), (0, 0, 15), (0, 0, 1), (0, 0, 15), (0, 0, 1), (0, 0, 15), (0, 0, 1), (0, 0, 15), (0, 0, 1), (0, 0, 15), (0, 0, 1), (0, 0, 15), (0, 0, 1), (0, 0, 15), (0, 0, 15), (0, 0, 15), (0, 0, 15), (0, 0, 15), (0, 0, 15), (0, 0, 15), (0, 0, 15), (0, 0, 9), (0, 0, 63), (0, 0, 9), (0, 0, 63), (0, 0, 9), (0, 0, 63), (0, 0, 9), (0, 0, 63), (0, 0, 9), (0, 0, 63), (0, 0, 9), (0, 0, 63), (0, 0, 3), (0, 0, 3), (0, 0, 3), (0, 0, 3), (0, 0, 3), (0, 0, 3), (0, 0, 3), (0, 0, 3), (0, 0, 3), (0, 0, 3), (0, 0, 3), (0, 0, 3), (0, 0, 3), (0, 0, 3), (0, 0, 3), (0, 0, 3), (0, 0, 3), (0, 0, 3), (0, 0, 3), (0, 0, 3), (0, 0, 3), (0, 0, 3), (0, 0, 3), (0, 0, 3), (0, 0, 3), (0, 0, 3), (0, 0, 3), (0, 0, 3), (0, 0, 3), (0, 0, 3), (0, 0, 3), (0, 0, 3), (0, 0, 3), (0, 0, 3), (0, 0, 3), (0, 0, 3), (0, 0, 3), (0, 0, 3), (0, 0, 3), (0, 0, 3), (0, 0, 3), (0, 0, 3), (0, 0, 3), (0, 0, 3), (0, 0, 3), (0, 0, 3), (0, 0, 3), (0, 0, 3), (0, 0, 3), (0, 0, 3), (0, 0, 3), (0, 0, 3), (0, 0, 3), (0, 0, 3), (0, 0, 3), (0, 0, 3), (0, 0, 3), (0, 0, 3), (0, 0, 3), (0, 0, 3)]), -- 36 DoorSchoolModel.world
  (1, 0, 678, [(0, 0, 4), (0, 0, 3), (0, 0, 4), (0, 0, 12), (0, 0, 4), (0, 0, 6), (0, 0, 60), (0, 0, 1600), (0, 0, 15), (0, 0, 15), (0, 0, 2), (0, 0, 50), (0, 0, 12), (0, (-1), 3), (0, 0, 2), (0, 0, 50), (0, 0, 12), (0, (-1), 3), (0, 0, 2), (0, 0, 50), (0, 0, 12), (0, (-1), 3), (0, 0, 2), (0, 0, 50), (0, 0, 12), (0, (-1), 3), (0, 0, 15), (0, 0, 1), (0, 0, 15), (0, 0, 1), (0, 0, 15), (0, 0, 1), (0, 0, 15), (0, 0, 1), (0, 0, 15), (0, 0, 1), (0, 0, 15), (0, 0, 1), (0, 0, 15), (0, 0, 1), (0, 0, 15), (0, 0, 1), (0, 0, 15), (0, 0, 1), (0, 0, 15), (0, 0, 1), (0, 0, 15), (0, 0, 1), (0, 0, 15), (0, 0, 1), (0, 0, 15), (0, 0, 1), (0, 0, 15), (0, 0, 1), (0, 0, 15), (0, 0, 1), (0, 0, 15), (0, 0, 1), (0, 0, 15), (0, 0, 1), (0, 0, 15), (0, 0, 1), (0, 0, 15), (0, 0, 1), (0, 0, 15), (0, 0, 1), (0, 0, 15), (0, 0, 1), (0, 0, 15), (0, 0, 1), (0, 0, 15), (0, 0, 1), (0, 0, 15), (0, 0, 1), (0, 0, 15), (0, 0, 1), (0, 0, 15), (0, 0, 1), (0, 0, 15), (0, 0, 1), (0, 0, 15), (0, 0, 1), (0, 0, 15), (0, 0, 1), (0, 0, 15), (0, 0, 1), (0, 0, 15), (0, 0, 1), (0, 0, 15), (0, 0, 1), (0, 0, 15), (0, 0, 1), (0, 0, 15), (0, 0, 1), (0, 0, 15), (0, 0, 1), (0, 0, 15), (0, 0, 1), (0, 0, 15), (0, 0, 1), (0, 0, 15), (0, 0, 1), (0, 0, 15), (0, 0, 1), (0, 0, 15), (0, 0, 1), (0, 0, 15), (0, 0, 1), (0, 0, 15), (0, 0, 1), (0, 0, 15), (0, 0, 1), (0, 0, 15), (0, 0, 1), (0, 0, 15), (0, 0, 1), (0, 0, 15), (0, 0, 1), (0, 0, 15), (0, 0, 1), (0, 0, 15), (0, 0, 1), (0, 0, 15), (0, 0, 1), (0, 0, 15), (0, 0, 1), (0, 0, 15), (0, 0, 1), (0, 0, 15), (0, 0, 1), (0, 0, 15), (0, 0, 1), (0, 0, 15), (0, 0, 1), (0, 0, 15), (0, 0, 1), (0, 0, 15), (0, 0, 1), (0, 0, 15), (0, 0, 1), (0, 0, 15), (0, 0, 1), (0, 0, 15), (0, 0, 1), (0, 0, 15), (0, 0, 1), (0, 0, 15), (0, 0, 15), (0, 0, 15), (0, 0, 15), (0, 0, 15), (0, 0, 15), (0, 0, 15), (0, 0, 15), (0, 0, 9), (0, 0, 63), (0, 0, 9), (0, 0, 63), (0, 0, 9), (0, 0, 63), (0, 0, 9), (0, 0, 63), (0, 0, 9), (0, 0, 63), (0, 0, 9), (0, 0, 63), (0, 0, 3), (0, 0, 3), (0, 0, 3), (0, 0, 3), (0, 0, 3), (0, 0, 3), (0, 0, 3), (0, 0, 3), (0, 0, 3), (0, 0, 3), (0, 0, 3), (0, 0, 3), (0, 0, 3), (0, 0, 3), (0, 0, 3), (0, 0, 3), (0, 0, 3), (0, 0, 3), (0, 0, 3), (0, 0, 3), (0, 0, 3), (0, 0, 3), (0, 0, 3), (0, 0, 3), (0, 0, 3), (0, 0, 3), (0, 0, 3), (0, 0, 3), (0, 0, 3), (0, 0, 3), (0, 0, 3), (0, 0, 3), (0, 0, 3), (0, 0, 3), (0, 0, 3), (0, 0, 3), (0, 0, 3), (0, 0, 3), (0, 0, 3), (0, 0, 3), (0, 0, 3), (0, 0, 3), (0, 0, 3), (0, 0, 3), (0, 0, 3), (0, 0, 3), (0, 0, 3), (0, 0, 3), (0, 0, 3), (0, 0, 3), (0, 0, 3), (0, 0, 3), (0, 0, 3), (0, 0, 3), (0, 0, 3), (0, 0, 3), (0, 0, 3), (0, 0, 3), (0, 0, 3), (0, 0, 3), (0, 0, 4), (0, 0, 3), (0, 0, 4), (0, 0, 12), (0, 0, 4), (0, 0, 6), (0, 0, 60), (0, 0, 1600), (0, 0, 15), (0, 0, 15), (0, 0, 2), (0, 0, 50), (0, 0, 12), (0, (-1), 3), (0, 0, 2), (0, 0, 50), (0, 0, 12), (0, (-1), 3), (0, 0, 2), (0, 0, 50), (0, 0, 12), (0, (-1), 3), (0, 0, 2), (0, 0, 50), (0, 0, 12), (0, (-1), 3), (0, 0, 15), (0, 0, 1), (0, 0, 15), (0, 0, 1), (0, 0, 15), (0, 0, 1), (0, 0, 15), (0, 0, 1), (0, 0, 15), (0, 0, 1), (0, 0, 15), (0, 0, 1), (0, 0, 15), (0, 0, 1), (0, 0, 15), (0, 0, 1), (0, 0, 15), (0, 0, 1), (0, 0, 15), (0, 0, 1), (0, 0, 15), (0, 0, 1), (0, 0, 15), (0, 0, 1), (0, 0, 15), (0, 0, 1), (0, 0, 15), (0, 0, 1), (0, 0, 15), (0, 0, 1), (0, 0, 15), (0, 0, 1), (0, 0, 15), (0, 0, 1), (0, 0, 15), (0, 0, 1), (0, 0, 15), (0, 0, 1), (0, 0, 15), (0, 0, 1), (0, 0, 15), (0, 0, 1), (0, 0, 15), (0, 0, 1), (0, 0, 15), (0, 0, 1), (0, 0, 15), (0, 0, 1), (0, 0, 15), (0, 0, 1), (0, 0, 15), (0, 0, 1), (0, 0, 15), (0, 0, 1), (0, 0, 15), (0, 0, 1), (0, 0, 15), (0, 0, 1), (0, 0, 15), (0, 0, 1), (0, 0, 15), (0, 0, 1), (0, 0, 15), (0, 0, 1), (0, 0, 15), (0, 0, 1), (0, 0, 15), (0, 0, 1), (0, 0, 15), (0, 0, 1), (0, 0, 15), (0, 0, 1), (0, 0, 15), (0, 0, 1), (0, 0, 15), (0, 0, 1), (0, 0, 15), (0, 0, 1), (0, 0, 15), (0, 0, 1), (0, 0, 15), (0, 0, 1), (0, 0, 15), (0, 0, 1), (0, 0, 15), (0, 0, 1), (0, 0, 15), (0, 0, 1), (0, 0, 15), (0, 0, 1), (0, 0, 15), (0, 0, 1), (0, 0, 15), (0, 0, 1), (0, 0, 15), (0, 0, 1), (0, 0, 15), (0, 0, 1), (0, 0, 15), (0, 0, 1), (0, 0, 15), (0, 0, 1), (0, 0, 15), (0, 0, 1), (0, 0, 15), (0, 0, 1), (0, 0, 15), (0, 0, 1), (0, 0, 15), (0, 0, 1), (0, 0, 15), (0, 0, 1), (0, 0, 15), (0, 0, 1), (0, 0, 15), (0, 0, 1), (0, 0, 15), (0, 0, 1), (0, 0, 15), (0, 0, 1), (0, 0, 15), (0, 0, 15), (0, 0, 15), (0, 0, 15), (0, 0, 15), (0, 0, 15), (0, 0, 15), (0, 0, 15), (0, 0, 9), (0, 0, 63), (0, 0, 9), (0, 0, 63), (0, 0, 9), (0, 0, 63), (0, 0, 9), (0, 0, 63), (0, 0, 9), (0, 0, 63), (0, 0, 9), (0, 0, 63), (0, 0, 3), (0, 0, 3), (0, 0, 3), (0, 0, 3), (0, 0, 3), (0, 0, 3), (0, 0, 3), (0, 0, 3), (0, 0, 3), (0, 0, 3), (0, 0, 3), (0, 0, 3), (0, 0, 3), (0, 0, 3), (0, 0, 3), (0, 0, 3), (0, 0, 3), (0, 0, 3), (0, 0, 3), (0, 0, 3), (0, 0, 3), (0, 0, 3), (0, 0, 3), (0, 0, 3), (0, 0, 3), (0, 0, 3), (0, 0, 3), (0, 0, 3), (0, 0, 3), (0, 0, 3), (0, 0, 3), (0, 0, 3), (0, 0, 3), (0, 0, 3), (0, 0, 3), (0, 0, 3), (0, 0, 3), (0, 0, 3), (0, 0, 3), (0, 0, 3), (0, 0, 3), (0, 0, 3), (0, 0, 3), (0, 0, 3), (0, 0, 3), (0, 0, 3), (0, 0, 3), (0, 0, 3), (0, 0, 3), (0, 0, 3), (0, 0, 3), (0, 0, 3), (0, 0, 3), (0, 0, 3), (0, 0, 3), (0, 0, 3), (0, 0, 3), (0, 0, 3), (0, 0, 3), (0, 0, 3), (0, 0, 4), (0, 0, 3), (0, 0, 4), (0, 0, 12), (0, 0, 4), (0, 0, 6), (0, 0, 60), (0, 0, 1600), (0, 0, 15), (0, 0, 15), (0, 0, 2), (0, 0, 50), (0, 0, 12), (0, (-1), 3), (0, 0, 2), (0, 0, 50), (0, 0, 12), (0, (-1), 3), (0, 0, 2), (0, 0, 50), (0, 0, 12), (0, (-1), 3), (0, 0, 2), (0, 0, 50), (0, 0, 12), (0, (-1), 3), (0, 0, 15), (0, 0, 1), (0, 0, 15), (0, 0, 1), (0, 0, 15), (0, 0, 1), (0, 0, 15), (0, 0, 1), (0, 0, 15), (0, 0, 1), (0, 0, 15), (0, 0, 1), (0, 0, 15), (0, 0, 1), (0, 0, 15), (0, 0, 1), (0, 0, 15), (0, 0, 1), (0, 0, 15), (0, 0, 1), (0, 0, 15), (0, 0, 1), (0, 0, 15), (0, 0, 1), (0, 0, 15), (0, 0, 1), (0, 0, 15), (0, 0, 1), (0, 0, 15), (0, 0, 1), (0, 0, 15), (0, 0, 1), (0, 0, 15), (0, 0, 1), (0, 0, 15), (0, 0, 1), (0, 0, 15), (0, 0, 1), (0, 0, 15), (0, 0, 1), (0, 0, 15), (0, 0, 1), (0, 0, 15), (0, 0, 1), (0, 0, 15), (0, 0, 1), (0, 0, 15), (0, 0, 1), (0, 0, 15), (0, 0, 1), (0, 0, 15), (0, 0, 1), (0, 0, 15), (0, 0, 1), (0, 0, 15), (0, 0, 1), (0, 0, 15), (0, 0, 1), (0, 0, 15), (0, 0, 1), (0, 0, 15), (0, 0, 1), (0, 0, 15), (0, 0, 1), (0, 0, 15), (0, 0, 1), (0, 0, 15), (0, 0, 1), (0, 0, 15), (0, 0, 1), (0, 0, 15), (0, 0, 1), (0, 0, 15), (0, 0, 1), (0, 0, 15), (0, 0, 1), (0, 0, 15), (0, 0, 1), (0, 0, 15), (0, 0, 1), (0, 0, 15), (0, 0, 1), (0, 0, 15), (0, 0, 1), (0, 0, 15), (0, 0, 1), (0, 0, 15), (0, 0, 1), (0, 0, 15), (0, 0, 1), (0, 0, 15), (0, 0, 1), (0, 0, 15), (0, 0, 1), (0, 0, 15), (0, 0, 1), (0, 0, 15), (0, 0, 1), (0, 0, 15), (0, 0, 1), (0, 0, 15), (0, 0, 1), (0, 0, 15), (0, 0, 1), (0, 0, 15), (0, 0, 1), (0, 0, 15), (0, 0, 1), (0, 0, 15), (0, 0, 1), (0, 0, 15), (0, 0, 1), (0, 0, 15), (0, 0, 1), (0, 0, 15), (0, 0, 1), (0, 0, 15), (0, 0, 1), (0, 0, 15), (0, 0, 1), (0, 0, 15), (0, 0, 15), (0, 0, 15), (0, 0, 15), (0, 0, 15), (0, 0, 15), (0, 0, 15), (0, 0, 15), (0, 0, 9), (0, 0, 63), (0, 0, 9), (0, 0, 63), (0, 0, 9), (0, 0, 63), (0, 0, 9), (0, 0, 63), (0, 0, 9), (0, 0, 63), (0, 0, 9), (0, 0, 63), (0, 0, 3), (0, 0, 3), (0, 0, 3), (0, 0, 3), (0, 0, 3), (0, 0, 3), (0, 0, 3), (0, 0, 3), (0, 0, 3), (0, 0, 3), (0, 0, 3), (0, 0, 3), (0, 0, 3), (0, 0, 3), (0, 0, 3), (0, 0, 3), (0, 0, 3), (0, 0, 3), (0, 0, 3), (0, 0, 3), (0, 0, 3), (0, 0, 3), (0, 0, 3), (0, 0, 3), (0, 0, 3), (0, 0, 3), (0, 0, 3), (0, 0, 3), (0, 0, 3), (0, 0, 3), (0, 0, 3), (0, 0, 3), (0, 0, 3), (0, 0, 3), (0, 0, 3), (0, 0, 3), (0, 0, 3), (0, 0, 3), (0, 0, 3), (0, 0, 3), (0, 0, 3), (0, 0, 3), (0, 0, 3), (0, 0, 3), (0, 0, 3), (0, 0, 3), (0, 0, 3), (0, 0, 3), (0, 0, 3), (0, 0, 3), (0, 0, 3), (0, 0, 3), (0, 0, 3), (0, 0, 3), (0, 0, 3), (0, 0, 3), (0, 0, 3), (0, 0, 3), (0, 0, 3), (0, 0, 3)]), -- 37 DoorSchoolModel.images
  (1, 3, 3, [(0, 0, 1)]), -- 38 DoorSchoolModel.hasImage
  (1, 2, 1600, [(0, (-128), 127)]), -- 39 DoorSchoolModel.tape
  (1, 0, 5, [(0, (-2147483648), 2147483647)]), -- 40 DoorSchoolModel.five
  (1, 0, 226, [(0, 0, 4), (0, 0, 3), (0, 0, 4), (0, 0, 12), (0, 0, 4), (0, 0, 6), (0, 0, 60), (0, 0, 1600), (0, 0, 15), (0, 0, 15), (0, 0, 2), (0, 0, 50), (0, 0, 12), (0, (-1), 3), (0, 0, 2), (0, 0, 50), (0, 0, 12), (0, (-1), 3), (0, 0, 2), (0, 0, 50), (0, 0, 12), (0, (-1), 3), (0, 0, 2), (0, 0, 50), (0, 0, 12), (0, (-1), 3), (0, 0, 15), (0, 0, 1), (0, 0, 15), (0, 0, 1), (0, 0, 15), (0, 0, 1), (0, 0, 15), (0, 0, 1), (0, 0, 15), (0, 0, 1), (0, 0, 15), (0, 0, 1), (0, 0, 15), (0, 0, 1), (0, 0, 15), (0, 0, 1), (0, 0, 15), (0, 0, 1), (0, 0, 15), (0, 0, 1), (0, 0, 15), (0, 0, 1), (0, 0, 15), (0, 0, 1), (0, 0, 15), (0, 0, 1), (0, 0, 15), (0, 0, 1), (0, 0, 15), (0, 0, 1), (0, 0, 15), (0, 0, 1), (0, 0, 15), (0, 0, 1), (0, 0, 15), (0, 0, 1), (0, 0, 15), (0, 0, 1), (0, 0, 15), (0, 0, 1), (0, 0, 15), (0, 0, 1), (0, 0, 15), (0, 0, 1), (0, 0, 15), (0, 0, 1), (0, 0, 15), (0, 0, 1), (0, 0, 15), (0, 0, 1), (0, 0, 15), (0, 0, 1), (0, 0, 15), (0, 0, 1), (0, 0, 15), (0, 0, 1), (0, 0, 15), (0, 0, 1), (0, 0, 15), (0, 0, 1), (0, 0, 15), (0, 0, 1), (0, 0, 15), (0, 0, 1), (0, 0, 15), (0, 0, 1), (0, 0, 15), (0, 0, 1), (0, 0, 15), (0, 0, 1), (0, 0, 15), (0, 0, 1), (0, 0, 15), (0, 0, 1), (0, 0, 15), (0, 0, 1), (0, 0, 15), (0, 0, 1), (0, 0, 15), (0, 0, 1), (0, 0, 15), (0, 0, 1), (0, 0, 15), (0, 0, 1), (0, 0, 15), (0, 0, 1), (0, 0, 15), (0, 0, 1), (0, 0, 15), (0, 0, 1), (0, 0, 15), (0, 0, 1), (0, 0, 15), (0, 0, 1), (0, 0, 15), (0, 0, 1), (0, 0, 15), (0, 0, 1), (0, 0, 15), (0, 0, 1), (0, 0, 15), (0, 0, 1), (0, 0, 15), (0, 0, 1), (0, 0, 15), (0, 0, 1), (0, 0, 15), (0, 0, 1), (0, 0, 15), (0, 0, 1), (0, 0, 15), (0, 0, 1), (0, 0, 15), (0, 0, 1), (0, 0, 15), (0, 0, 1), (0, 0, 15), (0, 0, 1), (0, 0, 15), (0, 0, 1), (0, 0, 15), (0, 0, 15), (0, 0, 15), (0, 0, 15), (0, 0, 15), (0, 0, 15), (0, 0, 15), (0, 0, 15), (0, 0, 9), (0, 0, 63), (0, 0, 9), (0, 0, 63), (0, 0, 9), (0, 0, 63), (0, 0, 9), (0, 0, 63), (0, 0, 9), (0, 0, 63), (0, 0, 9), (0, 0, 63), (0, 0, 3), (0, 0, 3), (0, 0, 3), (0, 0, 3), (0, 0, 3), (0, 0, 3), (0, 0, 3), (0, 0, 3), (0, 0, 3), (0, 0, 3), (0, 0, 3), (0, 0, 3), (0, 0, 3), (0, 0, 3), (0, 0, 3), (0, 0, 3), (0, 0, 3), (0, 0, 3), (0, 0, 3), (0, 0, 3), (0, 0, 3), (0, 0, 3), (0, 0, 3), (0, 0, 3), (0, 0, 3), (0, 0, 3), (0, 0, 3), (0, 0, 3), (0, 0, 3), (0, 0, 3), (0, 0, 3), (0, 0, 3), (0, 0, 3), (0, 0, 3), (0, 0, 3), (0, 0, 3), (0, 0, 3), (0, 0, 3), (0, 0, 3), (0, 0, 3), (0, 0, 3), (0, 0, 3), (0, 0, 3), (0, 0, 3), (0, 0, 3), (0, 0, 3), (0, 0, 3), (0, 0, 3), (0, 0, 3), (0, 0, 3), (0, 0, 3), (0, 0, 3), (0, 0, 3), (0, 0, 3), (0, 0, 3), (0, 0, 3), (0, 0, 3), (0, 0, 3), (0, 0, 3), (0, 0, 3)]), -- 41 DoorSchoolModel.fresh
  (1, 0, 81, [(0, 0, 15)]), -- 42 DoorSchoolModel.ruleSigns
  (1, 0, 81, [(0, 0, 15)]), -- 43 DoorSchoolModel.ruleThere
  (1, 0, 81, [(0, (-2147483648), 2147483647)]), -- 44 DoorSchoolModel.ruleDeeds
  (1, 0, 17, [(0, 0, 15)]), -- 45 DoorSchoolModel.learnKnock
  (1, 0, 17, [(0, 0, 1)]), -- 46 DoorSchoolModel.learnOpen
  (1, 0, 4, [(0, 0, 3)]), -- 47 DoorSchoolModel.hungNow
  (1, 0, 4, [(0, 0, 3)]), -- 48 DoorSchoolModel.hungBest
  (1, 0, 6, [(0, 0, 111)]), -- 49 DoorSchoolModel.begin
  (1, 0, 120, [(0, (-2147483648), 2147483647)]), -- 50 DoorSchoolModel.busy
  (1, 0, 6, [(0, 0, 54)]), -- 51 DoorSchoolModel.fixed
  (1, 0, 6, [(0, (-2147483648), 2147483647)]), -- 52 DoorSchoolModel.order
  (1, 0, 4, [(0, (-1), 60)]), -- 53 DoorSchoolModel.many
  (1, 0, 4, [(0, 0, 3)]), -- 54 DoorSchoolModel.width
  (2, 1, 240, [(1, (-9223372036854775808), 9223372036854775807)]), -- 55 DoorSchoolModel.numbers
  (2, 1, 60, [(1, (-9223372036854775808), 9223372036854775807)])] -- 56 DoorSchoolModel.moving
def NCEL : Nat := 181
def TG (a : Nat) : Nat := TAGS.getD a 999
def TY (g : Nat) : Nat × Nat × Nat × List (Nat × Int × Int) := TT.getD g (9, 0, 0, [])
def KD (g : Nat) : Nat := (TY g).1
def CL (g : Nat) : Nat := (TY g).2.1
def LN (g : Nat) : Nat := (TY g).2.2.1
/-- the type of a place: a row with one type has it at all places -/
def pick (k : Nat) (l : List (Nat × Int × Int)) (j : Nat) : Nat × Int × Int := match k, l with
  | 0, l => l.getD j (9, 0, 0)
  | _, [t] => t
  | _, l => l.getD j (9, 0, 0)
def FT (g j : Nat) : Nat × Int × Int := pick (KD g) (TY g).2.2.2 j
def SL (g j : Nat) : Nat := if KD g = 0 then j else 0
def vOK (t : Nat × Int × Int) (v : Value) : Prop := match v with
  | .int x => t.1 = 0 ∧ t.2.1 ≤ x.toInt ∧ x.toInt ≤ t.2.2
  | .long x => t.1 = 1 ∧ t.2.1 ≤ x.toInt ∧ x.toInt ≤ t.2.2
  | .ref a => t.1 = 2 ∧ (TG a : Int) = t.2.1
  | _ => False
abbrev SG : Type := Nat → List Value
/-- (a name that nothing unfolds) -/
theorem HPex : ∃ f : SG → AH, ∀ σ, f σ = SHP.mapIdx (fun i s => (s.1, s.2, σ i)) := ⟨_, fun _ => rfl⟩
noncomputable def HP : SG → AH := Classical.choose HPex
theorem HP_eq (σ : SG) : HP σ = SHP.mapIdx (fun i s => (s.1, s.2, σ i)) := Classical.choose_spec HPex σ
def pt (σ : SG) (a : Nat) (vs : List Value) : SG := fun i => if i = a then vs else σ i
theorem HP_at (σ : SG) (i : Nat) : (HP σ)[i]? = (SHP[i]?).map (fun s => (s.1, s.2, σ i)) := by
  rw [HP_eq, List.getElem?_mapIdx]
theorem HP_get {σ : SG} {a k c : Nat} (h : SHP[a]? = some (k, c)) : (HP σ)[a]? = some (k, c, σ a) := by
  rw [HP_at, h]; rfl
theorem HP_len (σ : SG) : (HP σ).length = SHP.length := by rw [HP_eq, List.length_mapIdx]
theorem HP_set {σ : SG} {a k c : Nat} {vs : List Value} (h : SHP[a]? = some (k, c)) : (HP σ).set a (k, c, vs) = HP (pt σ a vs) := by
  apply List.ext_getElem?
  intro j
  rw [List.getElem?_set]
  by_cases hj : a = j
  · subst hj
    have hl : a < SHP.length := (List.getElem?_eq_some_iff.mp h).1
    rw [if_pos rfl, HP_get h, HP_len, if_pos hl]
    unfold pt
    rw [if_pos rfl]
  · rw [if_neg hj, HP_at, HP_at]
    unfold pt
    rw [if_neg (fun z => hj z.symm)]
def okSh : Bool := (List.range NCEL).all (fun a => decide (SHP[a]? = some (KD (TG a), CL (TG a))))
theorem okSh_ok : okSh = true := by decide +kernel
theorem TG_lt {a g : Nat} (h : TG a = g) (hg : g < 900) : a < NCEL := by
  rcases Nat.lt_or_ge a NCEL with z | z
  · exact z
  · exfalso
    have e : TAGS.length = NCEL := by decide +kernel
    have : TG a = 999 := by
      unfold TG
      rw [List.getD_eq_getElem?_getD, List.getElem?_eq_none (by omega)]
      rfl
    omega
theorem shp {a g : Nat} (h : TG a = g) (hg : g < 900) : SHP[a]? = some (KD g, CL g) := by
  have h1 := TG_lt h hg
  have h2 := List.all_eq_true.mp okSh_ok a (List.mem_range.mpr h1)
  rw [← h]
  exact of_decide_eq_true h2
/-- the contents are of their types -/
def WT (σ : SG) : Prop := ∀ a, a < NCEL → (σ a).length = LN (TG a) ∧ ∀ j v, (σ a)[j]? = some v → vOK (FT (TG a) j) v
theorem WT_len {σ : SG} {a g : Nat} (hσ : WT σ) (h : TG a = g) (hg : g < 900) : (σ a).length = LN g := by
  rw [← h]; exact (hσ a (TG_lt h hg)).1
theorem WT_at {σ : SG} {a g j : Nat} (hσ : WT σ) (h : TG a = g) (hg : g < 900) (hj : j < LN g) : ∃ v, (σ a)[j]? = some v ∧ vOK (FT g j) v := by
  have h1 := WT_len hσ h hg
  have h2 : (σ a)[j]? = some ((σ a)[j]'(by omega)) := List.getElem?_eq_getElem (by omega)
  generalize ((σ a)[j]'(by omega)) = v at h2
  refine ⟨v, h2, ?_⟩
  rw [← h]
  exact (hσ a (TG_lt h hg)).2 j _ h2
theorem WT_pt {σ : SG} {a g j : Nat} {v : Value} (hσ : WT σ) (h : TG a = g) (hv : vOK (FT g j) v) : WT (pt σ a ((σ a).set j v)) := by
  intro b hb
  unfold pt
  by_cases e : b = a
  · subst e
    rw [if_pos rfl, List.length_set]
    refine ⟨(hσ b hb).1, fun i w hw => ?_⟩
    rw [List.getElem?_set] at hw
    by_cases hij : j = i
    · subst hij
      rw [if_pos rfl] at hw
      split at hw
      · cases hw; rw [h]; exact hv
      · cases hw
    · rw [if_neg hij] at hw
      exact (hσ b hb).2 i w hw
  · rw [if_neg e]; exact hσ b hb
/-- what a run writes: places of a tag (a row's places are one) -/
def Fr (W : List (Nat × Nat)) (σ σ' : SG) : Prop := ∀ b i, W.contains (TG b, SL (TG b) i) = false → (σ' b)[i]? = (σ b)[i]?
theorem Fr_rfl {W : List (Nat × Nat)} {σ : SG} : Fr W σ σ := fun _ _ _ => rfl
theorem Fr_pt {W : List (Nat × Nat)} {σ0 σ : SG} {a g j : Nat} {v : Value} (hF : Fr W σ0 σ) (h : TG a = g) (hW : W.contains (g, SL g j) = true) : Fr W σ0 (pt σ a ((σ a).set j v)) := by
  intro b i hb
  rw [← hF b i hb]
  unfold pt
  by_cases e : b = a
  · subst e
    rw [if_pos rfl, List.getElem?_set]
    by_cases hij : j = i
    · subst hij
      rw [h, hW] at hb
      cases hb
    · rw [if_neg hij]
  · rw [if_neg e]
theorem Fr_trans {W W' : List (Nat × Nat)} {σ0 σ σ' : SG} (h1 : Fr W σ0 σ) (h2 : Fr W' σ σ') (hs : W'.all (fun q => W.contains q) = true) : Fr W σ0 σ' := by
  intro b i hb
  rw [← h1 b i hb]
  refine h2 b i ?_
  cases hc : W'.contains (TG b, SL (TG b) i) with
  | false => rfl
  | true =>
    have hm := List.contains_iff_mem.mp hc
    have := List.all_eq_true.mp hs _ hm
    rw [this] at hb
    cases hb
theorem pt_at {σ : SG} {a j : Nat} {v : Value} (hj : j < (σ a).length) : (pt σ a ((σ a).set j v) a)[j]? = some v := by
  unfold pt
  rw [if_pos rfl, List.getElem?_set, if_pos rfl, if_pos hj]
theorem pt_ne {σ : SG} {a j b i : Nat} {v : Value} (h : b ≠ a ∨ i ≠ j) : (pt σ a ((σ a).set j v) b)[i]? = (σ b)[i]? := by
  unfold pt
  by_cases e : b = a
  · subst e
    rw [if_pos rfl, List.getElem?_set, if_neg (by omega)]
  · rw [if_neg e]
/-! RUNS TO THE END OF A METHOD -/
abbrev PO : Type := Option Value → SG → Prop
def En (fr lo : Nat) (scr : AS) (F : MR) (P : PO) (pc : Nat) (lv : ALv) (st : List Value) (σ : SG) : Prop := ∃ v σ', Go MT fr lo scr F pc lv st (HP σ) (v, HP σ') ∧ P v σ'
section EN
variable {fr lo : Nat} {scr : AS} {F : MR} {P : PO} {pc pc' len tgt : Nat} {i : Instr} {lv lv' : ALv} {st st' r : List Value} {σ σ0 : SG} {W : List (Nat × Nat)}
theorem En_Ps (n : Nat) (hs : pst F scr (HP σ) n pc lv st = some (pc', lv', st')) (k : En fr lo scr F P pc' lv' st' σ) : En fr lo scr F P pc lv st σ := by
  obtain ⟨v, σ', g, hp⟩ := k
  exact ⟨v, σ', Go_Ps n hs g, hp⟩
theorem En_P1 (hf : fc F pc = some (i, len, tgt)) (hk : ikind i = 0) (hs : stpP F scr i tgt pc lv st (HP σ) = some (pc', lv', st')) (k : En fr lo scr F P pc' lv' st' σ) : En fr lo scr F P pc lv st σ :=
  En_Ps 1 (oB_mk hf (oC_mk (by rw [hk]; rfl) (oB_mk hs rfl))) k
theorem En_ret {v : Option Value} (hf : fc F pc = some (i, len, tgt)) (hk : ikind i = 4) (hs : doRet F i st (HP σ) = some (v, HP σ)) (hp : P v σ) : En fr lo scr F P pc lv st σ := ⟨v, σ, Go_ret hf hk hs, hp⟩
/-! branches -/
theorem En_br {c : Prop} {dc : Decidable c} {a b : Nat} (hf : fc F pc = some (i, len, tgt)) (hk : ikind i = 0) (hs : stpP F scr i tgt pc lv st (HP σ) = jmp (@decide c dc) a b lv' r) (k1 : c → En fr lo scr F P a lv' r σ) (k2 : ¬ c → En fr lo scr F P b lv' r σ) : En fr lo scr F P pc lv st σ := by
  cases dc with
  | isTrue h => exact En_P1 hf hk (by rw [hs]; rfl) (k1 h)
  | isFalse h => exact En_P1 hf hk (by rw [hs]; rfl) (k2 h)
theorem En_icLt {x y : Int32} {X Y : Int} (o : Int) (hX : x.toInt = X) (hY : y.toInt = Y) (hf : fc F pc = some (.if_icmp .lt o, len, tgt)) (k1 : X < Y → En fr lo scr F P tgt lv r σ) (k2 : Y ≤ X → En fr lo scr F P (pc + 3) lv r σ) : En fr lo scr F P pc lv (.int y :: .int x :: r) σ :=
  En_br (c := x < y) hf rfl rfl (fun h => k1 (by have := Int32.lt_iff_toInt_lt.mp h; omega)) (fun h => k2 (by have : ¬ x.toInt < y.toInt := fun z => h (Int32.lt_iff_toInt_lt.mpr z); omega))
theorem En_icGe {x y : Int32} {X Y : Int} (o : Int) (hX : x.toInt = X) (hY : y.toInt = Y) (hf : fc F pc = some (.if_icmp .ge o, len, tgt)) (k1 : Y ≤ X → En fr lo scr F P tgt lv r σ) (k2 : X < Y → En fr lo scr F P (pc + 3) lv r σ) : En fr lo scr F P pc lv (.int y :: .int x :: r) σ :=
  En_br (c := y ≤ x) hf rfl rfl (fun h => k1 (by have := Int32.le_iff_toInt_le.mp h; omega)) (fun h => k2 (by have : ¬ y.toInt ≤ x.toInt := fun z => h (Int32.le_iff_toInt_le.mpr z); omega))
theorem En_icGt {x y : Int32} {X Y : Int} (o : Int) (hX : x.toInt = X) (hY : y.toInt = Y) (hf : fc F pc = some (.if_icmp .gt o, len, tgt)) (k1 : Y < X → En fr lo scr F P tgt lv r σ) (k2 : X ≤ Y → En fr lo scr F P (pc + 3) lv r σ) : En fr lo scr F P pc lv (.int y :: .int x :: r) σ :=
  En_br (c := y < x) hf rfl rfl (fun h => k1 (by have := Int32.lt_iff_toInt_lt.mp h; omega)) (fun h => k2 (by have : ¬ y.toInt < x.toInt := fun z => h (Int32.lt_iff_toInt_lt.mpr z); omega))
theorem En_icLe {x y : Int32} {X Y : Int} (o : Int) (hX : x.toInt = X) (hY : y.toInt = Y) (hf : fc F pc = some (.if_icmp .le o, len, tgt)) (k1 : X ≤ Y → En fr lo scr F P tgt lv r σ) (k2 : Y < X → En fr lo scr F P (pc + 3) lv r σ) : En fr lo scr F P pc lv (.int y :: .int x :: r) σ :=
  En_br (c := x ≤ y) hf rfl rfl (fun h => k1 (by have := Int32.le_iff_toInt_le.mp h; omega)) (fun h => k2 (by have : ¬ x.toInt ≤ y.toInt := fun z => h (Int32.le_iff_toInt_le.mpr z); omega))
theorem En_icEq {x y : Int32} {X Y : Int} (o : Int) (hX : x.toInt = X) (hY : y.toInt = Y) (hf : fc F pc = some (.if_icmp .eq o, len, tgt)) (k1 : X = Y → En fr lo scr F P tgt lv r σ) (k2 : X ≠ Y → En fr lo scr F P (pc + 3) lv r σ) : En fr lo scr F P pc lv (.int y :: .int x :: r) σ :=
  En_br (c := x = y) hf rfl rfl (fun h => k1 (by rw [h] at hX; omega)) (fun h => k2 (by have : ¬ x.toInt = y.toInt := fun z => h (Int32.toInt_inj.mp z); omega))
theorem En_icNe {x y : Int32} {X Y : Int} (o : Int) (hX : x.toInt = X) (hY : y.toInt = Y) (hf : fc F pc = some (.if_icmp .ne o, len, tgt)) (k1 : X ≠ Y → En fr lo scr F P tgt lv r σ) (k2 : X = Y → En fr lo scr F P (pc + 3) lv r σ) : En fr lo scr F P pc lv (.int y :: .int x :: r) σ :=
  En_br (c := ¬ x = y) hf rfl rfl (fun h => k1 (by have : ¬ x.toInt = y.toInt := fun z => h (Int32.toInt_inj.mp z); omega)) (fun h => k2 (by have h2 : x = y := Decidable.of_not_not h; rw [h2] at hX; omega))
theorem z32 : (0 : Int32).toInt = 0 := by decide
theorem En_iLt {x : Int32} {X : Int} (o : Int) (hX : x.toInt = X) (hf : fc F pc = some (.ifCond .lt o, len, tgt)) (k1 : X < 0 → En fr lo scr F P tgt lv r σ) (k2 : 0 ≤ X → En fr lo scr F P (pc + 3) lv r σ) : En fr lo scr F P pc lv (.int x :: r) σ :=
  En_br (c := x < 0) hf rfl rfl (fun h => k1 (by have := Int32.lt_iff_toInt_lt.mp h; rw [z32] at this; omega)) (fun h => k2 (by have : ¬ x.toInt < (0 : Int32).toInt := fun z => h (Int32.lt_iff_toInt_lt.mpr z); rw [z32] at this; omega))
theorem En_iGe {x : Int32} {X : Int} (o : Int) (hX : x.toInt = X) (hf : fc F pc = some (.ifCond .ge o, len, tgt)) (k1 : 0 ≤ X → En fr lo scr F P tgt lv r σ) (k2 : X < 0 → En fr lo scr F P (pc + 3) lv r σ) : En fr lo scr F P pc lv (.int x :: r) σ :=
  En_br (c := 0 ≤ x) hf rfl rfl (fun h => k1 (by have := Int32.le_iff_toInt_le.mp h; rw [z32] at this; omega)) (fun h => k2 (by have : ¬ (0 : Int32).toInt ≤ x.toInt := fun z => h (Int32.le_iff_toInt_le.mpr z); rw [z32] at this; omega))
theorem En_iGt {x : Int32} {X : Int} (o : Int) (hX : x.toInt = X) (hf : fc F pc = some (.ifCond .gt o, len, tgt)) (k1 : 0 < X → En fr lo scr F P tgt lv r σ) (k2 : X ≤ 0 → En fr lo scr F P (pc + 3) lv r σ) : En fr lo scr F P pc lv (.int x :: r) σ :=
  En_br (c := 0 < x) hf rfl rfl (fun h => k1 (by have := Int32.lt_iff_toInt_lt.mp h; rw [z32] at this; omega)) (fun h => k2 (by have : ¬ (0 : Int32).toInt < x.toInt := fun z => h (Int32.lt_iff_toInt_lt.mpr z); rw [z32] at this; omega))
theorem En_iLe {x : Int32} {X : Int} (o : Int) (hX : x.toInt = X) (hf : fc F pc = some (.ifCond .le o, len, tgt)) (k1 : X ≤ 0 → En fr lo scr F P tgt lv r σ) (k2 : 0 < X → En fr lo scr F P (pc + 3) lv r σ) : En fr lo scr F P pc lv (.int x :: r) σ :=
  En_br (c := x ≤ 0) hf rfl rfl (fun h => k1 (by have := Int32.le_iff_toInt_le.mp h; rw [z32] at this; omega)) (fun h => k2 (by have : ¬ x.toInt ≤ (0 : Int32).toInt := fun z => h (Int32.le_iff_toInt_le.mpr z); rw [z32] at this; omega))
theorem En_iEq {x : Int32} {X : Int} (o : Int) (hX : x.toInt = X) (hf : fc F pc = some (.ifCond .eq o, len, tgt)) (k1 : X = 0 → En fr lo scr F P tgt lv r σ) (k2 : X ≠ 0 → En fr lo scr F P (pc + 3) lv r σ) : En fr lo scr F P pc lv (.int x :: r) σ :=
  En_br (c := x = 0) hf rfl rfl (fun h => k1 (by rw [h, z32] at hX; omega)) (fun h => k2 (by have : ¬ x.toInt = (0 : Int32).toInt := fun z => h (Int32.toInt_inj.mp z); rw [z32] at this; omega))
theorem En_iNe {x : Int32} {X : Int} (o : Int) (hX : x.toInt = X) (hf : fc F pc = some (.ifCond .ne o, len, tgt)) (k1 : X ≠ 0 → En fr lo scr F P tgt lv r σ) (k2 : X = 0 → En fr lo scr F P (pc + 3) lv r σ) : En fr lo scr F P pc lv (.int x :: r) σ :=
  En_br (c := ¬ x = 0) hf rfl rfl (fun h => k1 (by have : ¬ x.toInt = (0 : Int32).toInt := fun z => h (Int32.toInt_inj.mp z); rw [z32] at this; omega)) (fun h => k2 (by have h2 : x = 0 := Decidable.of_not_not h; rw [h2, z32] at hX; omega))
/-! fields -/
theorem En_get {a g : Nat} {x : Nat} {e : Nat × Nat × Nat × Nat × Nat} (hf : fc F pc = some (.getfield x, len, tgt)) (he : fnd (mfl F) x = some e) (ha : TG a = g) (hg : (KD g == 0 && CL g == e.1 && decide (e.2.1 < LN g) && decide (g < 900)) = true) (hσ : WT σ) (k : ∀ v, (σ a)[e.2.1]? = some v → vOK (FT g e.2.1) v → En fr lo scr F P (pc + 3) lv (v :: r) σ) : En fr lo scr F P pc lv (.ref a :: r) σ := by
  simp only [Bool.and_eq_true, beq_iff_eq, decide_eq_true_eq] at hg
  obtain ⟨⟨⟨g1, g2⟩, g3⟩, g4⟩ := hg
  obtain ⟨v, hv, ht⟩ := WT_at hσ ha g4 g3
  refine En_P1 hf rfl (pc' := pc + 3) (lv' := lv) (st' := v :: r) ?_ (k v hv ht)
  show oB (fnd (mfl F) x) _ = _
  refine oB_mk he (oB_mk (HP_get (shp ha g4)) (oC_mk (by dsimp only; rw [g1, g2]; simp) (oB_mk hv rfl)))
theorem En_getI {a g j : Nat} {x : Nat} {l u : Int} {e : Nat × Nat × Nat × Nat × Nat} (hf : fc F pc = some (.getfield x, len, tgt)) (he : fnd (mfl F) x = some e) (hj : e.2.1 = j) (ha : TG a = g) (hg : (KD g == 0 && CL g == e.1 && decide (e.2.1 < LN g) && decide (g < 900)) = true) (hσ : WT σ) (ht : FT g j = (0, l, u)) (k : ∀ y : Int32, (σ a)[j]? = some (.int y) → l ≤ y.toInt → y.toInt ≤ u → En fr lo scr F P (pc + 3) lv (.int y :: r) σ) : En fr lo scr F P pc lv (.ref a :: r) σ := by
  subst hj
  refine En_get hf he ha hg hσ (fun v hv hk => ?_)
  rw [ht] at hk
  cases v with
  | int y => exact k y hv hk.2.1 hk.2.2
  | long y => exact absurd hk.1 (by intro z; cases z)
  | ref y => exact absurd hk.1 (by intro z; cases z)
  | _ => exact absurd hk id
theorem En_getR {a g j g' : Nat} {x : Nat} {u : Int} {e : Nat × Nat × Nat × Nat × Nat} (hf : fc F pc = some (.getfield x, len, tgt)) (he : fnd (mfl F) x = some e) (hj : e.2.1 = j) (ha : TG a = g) (hg : (KD g == 0 && CL g == e.1 && decide (e.2.1 < LN g) && decide (g < 900)) = true) (hσ : WT σ) (ht : FT g j = (2, (g' : Int), u)) (k : ∀ y : Nat, (σ a)[j]? = some (.ref y) → TG y = g' → En fr lo scr F P (pc + 3) lv (.ref y :: r) σ) : En fr lo scr F P pc lv (.ref a :: r) σ := by
  subst hj
  refine En_get hf he ha hg hσ (fun v hv hk => ?_)
  rw [ht] at hk
  cases v with
  | int y => exact absurd hk.1 (by intro z; cases z)
  | long y => exact absurd hk.1 (by intro z; cases z)
  | ref y => exact k y hv (Int.ofNat_inj.mp hk.2)
  | _ => exact absurd hk id
theorem En_getK {a g j : Nat} {x : Nat} {v : Value} {e : Nat × Nat × Nat × Nat × Nat} (hv : (σ a)[j]? = some v) (hf : fc F pc = some (.getfield x, len, tgt)) (he : fnd (mfl F) x = some e) (hj : e.2.1 = j) (ha : TG a = g) (hg : (KD g == 0 && CL g == e.1 && decide (e.2.1 < LN g) && decide (g < 900)) = true) (k : En fr lo scr F P (pc + 3) lv (v :: r) σ) : En fr lo scr F P pc lv (.ref a :: r) σ := by
  subst hj
  simp only [Bool.and_eq_true, beq_iff_eq, decide_eq_true_eq] at hg
  obtain ⟨⟨⟨g1, g2⟩, g3⟩, g4⟩ := hg
  refine En_P1 hf rfl (pc' := pc + 3) (lv' := lv) (st' := v :: r) ?_ k
  show oB (fnd (mfl F) x) _ = _
  refine oB_mk he (oB_mk (HP_get (shp ha g4)) (oC_mk (by dsimp only; rw [g1, g2]; simp) (oB_mk hv rfl)))
theorem En_put {a g j : Nat} {x : Nat} {v : Value} {e : Nat × Nat × Nat × Nat × Nat} (hf : fc F pc = some (.putfield x, len, tgt)) (he : fnd (mfl F) x = some e) (hj : e.2.1 = j) (ha : TG a = g) (hg : (KD g == 0 && CL g == e.1 && decide (e.2.1 < LN g) && decide (g < 900) && decide (e.2.2.1 < 3)) = true) (hfit : okFit (TYF e.1 e.2.1) v = true) (hv : vOK (FT g j) v) (hσ : WT σ) (hF : Fr W σ0 σ) (hW : W.contains (g, SL g j) = true)
    (k : ∀ σ', WT σ' → Fr W σ0 σ' → (σ' a)[j]? = some v → (∀ b i, (b ≠ a ∨ i ≠ j) → (σ' b)[i]? = (σ b)[i]?) → En fr lo scr F P (pc + 3) lv r σ') : En fr lo scr F P pc lv (v :: .ref a :: r) σ := by
  subst hj
  simp only [Bool.and_eq_true, beq_iff_eq, decide_eq_true_eq] at hg
  obtain ⟨⟨⟨⟨g1, g2⟩, g3⟩, g4⟩, g5⟩ := hg
  have hl := WT_len hσ ha g4
  obtain ⟨w, σ', g, hp⟩ := k (pt σ a ((σ a).set e.2.1 v)) (WT_pt hσ ha hv) (Fr_pt hF ha hW) (pt_at (by omega)) (fun b i h => pt_ne h)
  refine ⟨w, σ', Go_W hf rfl (pc' := pc + 3) (st' := r) (h' := HP (pt σ a ((σ a).set e.2.1 v))) ?_ g, hp⟩
  show oB (fnd (mfl F) x) _ = _
  refine oB_mk he (oB_mk (HP_get (shp ha g4)) (oC_mk (by dsimp only; simp only [Bool.and_eq_true, beq_iff_eq, decide_eq_true_eq]; exact ⟨⟨⟨⟨g1, g2⟩, g5⟩, by omega⟩, hfit⟩) ?_))
  rw [← HP_set (shp ha g4)]
  dsimp only
  rw [g1]
/-! rows of numbers -/
theorem nonneg32 {j : Int32} {J : Int} (hJ : j.toInt = J) (h : 0 ≤ J) : ¬ j < 0 := fun z => by have := Int32.lt_iff_toInt_lt.mp z; rw [z32] at this; omega
theorem toNat32 {j : Int32} {J : Int} (hJ : j.toInt = J) : j.toNatClampNeg = J.toNat := by rw [← hJ]; rfl
theorem ldR_ok {kd t1 t2 a g : Nat} {j : Int32} {J : Int} (ha : TG a = g) (hg : (KD g == kd && (CL g == t1 || CL g == t2) && decide (g < 900)) = true) (hσ : WT σ) (hJ : j.toInt = J) (h0 : 0 ≤ J) (h1 : J < LN g) : ∃ v, (σ a)[J.toNat]? = some v ∧ vOK (FT g J.toNat) v ∧ ldR scr kd t1 t2 (.int j :: .ref a :: r) (HP σ) = some (v, r) := by
  simp only [Bool.and_eq_true, Bool.or_eq_true, beq_iff_eq, decide_eq_true_eq] at hg
  obtain ⟨⟨g1, g2⟩, g4⟩ := hg
  obtain ⟨v, hv, ht⟩ := WT_at (j := J.toNat) hσ ha g4 (by omega)
  refine ⟨v, hv, ht, ?_⟩
  unfold ldR
  refine oB_mk (HP_get (shp ha g4)) (oC_mk (by dsimp only; simp only [Bool.and_eq_true, Bool.or_eq_true, beq_iff_eq, decide_eq_true_eq]; exact ⟨⟨g1, g2⟩, nonneg32 hJ h0⟩) (oB_mk ?_ rfl))
  rw [toNat32 hJ]
  exact hv
theorem vOK_int {l u : Int} {v : Value} (hk : vOK (0, l, u) v) : ∃ y : Int32, v = .int y ∧ l ≤ y.toInt ∧ y.toInt ≤ u := by
  cases v with
  | int y => exact ⟨y, rfl, hk.2.1, hk.2.2⟩
  | long y => exact absurd hk.1 (by intro z; cases z)
  | ref y => exact absurd hk.1 (by intro z; cases z)
  | _ => exact absurd hk id
theorem vOK_long {l u : Int} {v : Value} (hk : vOK (1, l, u) v) : ∃ y : Int64, v = .long y ∧ l ≤ y.toInt ∧ y.toInt ≤ u := by
  cases v with
  | long y => exact ⟨y, rfl, hk.2.1, hk.2.2⟩
  | int y => exact absurd hk.1 (by intro z; cases z)
  | ref y => exact absurd hk.1 (by intro z; cases z)
  | _ => exact absurd hk id
theorem vOK_ref {g : Nat} {u : Int} {v : Value} (hk : vOK (2, (g : Int), u) v) : ∃ y : Nat, v = .ref y ∧ TG y = g := by
  cases v with
  | ref y => exact ⟨y, rfl, Int.ofNat_inj.mp hk.2⟩
  | int y => exact absurd hk.1 (by intro z; cases z)
  | long y => exact absurd hk.1 (by intro z; cases z)
  | _ => exact absurd hk id
theorem En_iald {a g : Nat} {j : Int32} {J l u : Int} (hf : fc F pc = some (.iaload, len, tgt)) (hJ : j.toInt = J) (ha : TG a = g) (hg : (KD g == 1 && (CL g == 0 || CL g == 0) && decide (g < 900)) = true) (hσ : WT σ) (h0 : 0 ≤ J) (h1 : J < LN g) (ht : FT g J.toNat = (0, l, u)) (k : ∀ y : Int32, (σ a)[J.toNat]? = some (.int y) → l ≤ y.toInt → y.toInt ≤ u → En fr lo scr F P (pc + 1) lv (.int y :: r) σ) : En fr lo scr F P pc lv (.int j :: .ref a :: r) σ := by
  obtain ⟨v, hv, hk, hl⟩ := ldR_ok (scr := scr) (r := r) ha hg hσ hJ h0 h1
  rw [ht] at hk
  obtain ⟨y, rfl, h2, h3⟩ := vOK_int hk
  exact En_P1 hf rfl (oB_mk hl rfl) (k y hv h2 h3)
theorem En_bald {a g : Nat} {j : Int32} {J l u : Int} (hf : fc F pc = some (.baload, len, tgt)) (hJ : j.toInt = J) (ha : TG a = g) (hg : (KD g == 1 && (CL g == 2 || CL g == 3) && decide (g < 900)) = true) (hσ : WT σ) (h0 : 0 ≤ J) (h1 : J < LN g) (ht : FT g J.toNat = (0, l, u)) (k : ∀ y : Int32, (σ a)[J.toNat]? = some (.int y) → l ≤ y.toInt → y.toInt ≤ u → En fr lo scr F P (pc + 1) lv (.int y :: r) σ) : En fr lo scr F P pc lv (.int j :: .ref a :: r) σ := by
  obtain ⟨v, hv, hk, hl⟩ := ldR_ok (scr := none) (r := r) ha hg hσ hJ h0 h1
  rw [ht] at hk
  obtain ⟨y, rfl, h2, h3⟩ := vOK_int hk
  exact En_P1 hf rfl (oB_mk hl rfl) (k y hv h2 h3)
theorem En_lald {a g : Nat} {j : Int32} {J l u : Int} (hf : fc F pc = some (.laload, len, tgt)) (hJ : j.toInt = J) (ha : TG a = g) (hg : (KD g == 2 && (CL g == 1 || CL g == 1) && decide (g < 900)) = true) (hσ : WT σ) (h0 : 0 ≤ J) (h1 : J < LN g) (ht : FT g J.toNat = (1, l, u)) (k : ∀ y : Int64, (σ a)[J.toNat]? = some (.long y) → l ≤ y.toInt → y.toInt ≤ u → En fr lo scr F P (pc + 1) lv (.long y :: r) σ) : En fr lo scr F P pc lv (.int j :: .ref a :: r) σ := by
  obtain ⟨v, hv, hk, hl⟩ := ldR_ok (scr := none) (r := r) ha hg hσ hJ h0 h1
  rw [ht] at hk
  obtain ⟨y, rfl, h2, h3⟩ := vOK_long hk
  exact En_P1 hf rfl (oB_mk hl rfl) (k y hv h2 h3)
theorem En_aald {a g g' : Nat} {j : Int32} {J u : Int} (hf : fc F pc = some (.aaload, len, tgt)) (hJ : j.toInt = J) (ha : TG a = g) (hg : (KD g == 3 && (CL g == 4 || CL g == 5 || CL g == 6) && decide (g < 900)) = true) (hσ : WT σ) (h0 : 0 ≤ J) (h1 : J < LN g) (ht : FT g J.toNat = (2, (g' : Int), u)) (k : ∀ y : Nat, (σ a)[J.toNat]? = some (.ref y) → TG y = g' → En fr lo scr F P (pc + 1) lv (.ref y :: r) σ) : En fr lo scr F P pc lv (.int j :: .ref a :: r) σ := by
  simp only [Bool.and_eq_true, Bool.or_eq_true, beq_iff_eq, decide_eq_true_eq] at hg
  obtain ⟨⟨g1, g2⟩, g4⟩ := hg
  obtain ⟨v, hv, hk⟩ := WT_at (j := J.toNat) hσ ha g4 (by omega)
  rw [ht] at hk
  obtain ⟨y, rfl, h2⟩ := vOK_ref hk
  refine En_P1 hf rfl (pc' := pc + 1) (lv' := lv) (st' := .ref y :: r) ?_ (k y hv h2)
  show oB (HP σ)[a]? _ = _
  refine oB_mk (HP_get (shp ha g4)) (oC_mk (by dsimp only; simp only [Bool.and_eq_true, Bool.or_eq_true, beq_iff_eq, decide_eq_true_eq]; exact ⟨⟨g1, g2⟩, nonneg32 hJ h0⟩) (oB_mk (a := .ref y) ?_ rfl))
  rw [toNat32 hJ]
  exact hv
theorem En_alen {a g : Nat} (hf : fc F pc = some (.arraylength, len, tgt)) (ha : TG a = g) (hg : ((KD g == 1 || KD g == 2 || KD g == 3) && decide (CL g < 7) && decide (g < 900)) = true) (hσ : WT σ) (k : En fr lo scr F P (pc + 1) lv (.int (Int32.ofNat (LN g)) :: r) σ) : En fr lo scr F P pc lv (.ref a :: r) σ := by
  simp only [Bool.and_eq_true, Bool.or_eq_true, beq_iff_eq, decide_eq_true_eq] at hg
  obtain ⟨⟨g1, g2⟩, g4⟩ := hg
  refine En_P1 hf rfl (pc' := pc + 1) (lv' := lv) (st' := .int (Int32.ofNat (LN g)) :: r) ?_ k
  show oB (alen scr (HP σ) (.ref a)) _ = _
  refine oB_mk (a := Int32.ofNat (LN g)) ?_ rfl
  unfold alen
  refine oB_mk (HP_get (shp ha g4)) (oC_mk (by dsimp only; simp only [Bool.and_eq_true, Bool.or_eq_true, beq_iff_eq, decide_eq_true_eq]; exact ⟨g1, g2⟩) ?_)
  dsimp only
  rw [WT_len hσ ha g4]
theorem En_iast {a g : Nat} {j y : Int32} {J l u : Int} (hf : fc F pc = some (.iastore, len, tgt)) (hJ : j.toInt = J) (ha : TG a = g) (hg : (KD g == 1 && CL g == 0 && decide (g < 900)) = true) (h0 : 0 ≤ J) (h1 : J < LN g) (ht : FT g J.toNat = (0, l, u)) (hv : l ≤ y.toInt ∧ y.toInt ≤ u) (hσ : WT σ) (hF : Fr W σ0 σ) (hW : W.contains (g, 0) = true)
    (k : ∀ σ', WT σ' → Fr W σ0 σ' → (σ' a)[J.toNat]? = some (.int y) → (∀ b i, (b ≠ a ∨ i ≠ J.toNat) → (σ' b)[i]? = (σ b)[i]?) → En fr lo scr F P (pc + 1) lv r σ') : En fr lo scr F P pc lv (.int y :: .int j :: .ref a :: r) σ := by
  simp only [Bool.and_eq_true, beq_iff_eq, decide_eq_true_eq] at hg
  obtain ⟨⟨g1, g2⟩, g4⟩ := hg
  have hl := WT_len hσ ha g4
  have e : SL g J.toNat = 0 := by unfold SL; rw [if_neg (by omega)]
  obtain ⟨w, σ', gg, hp⟩ := k (pt σ a ((σ a).set J.toNat (.int y))) (WT_pt hσ ha (by rw [ht]; exact ⟨rfl, hv⟩)) (Fr_pt hF ha (by rw [e]; exact hW)) (pt_at (by omega)) (fun b i h => pt_ne h)
  refine ⟨w, σ', Go_W hf rfl (pc' := pc + 1) (st' := r) (h' := HP (pt σ a ((σ a).set J.toNat (.int y)))) ?_ gg, hp⟩
  show oB (HP σ)[a]? _ = _
  refine oB_mk (HP_get (shp ha g4)) (oC_mk (by dsimp only; rw [toNat32 hJ]; simp only [Bool.and_eq_true, beq_iff_eq, decide_eq_true_eq]; exact ⟨⟨⟨⟨rfl, g1⟩, g2⟩, nonneg32 hJ h0⟩, by omega⟩) ?_)
  rw [← HP_set (shp ha g4)]
  dsimp only
  rw [g1, toNat32 hJ]
theorem En_bast {a g : Nat} {j y y' : Int32} {J l u : Int} (hf : fc F pc = some (.bastore, len, tgt)) (hJ : j.toInt = J) (ha : TG a = g) (hg : (KD g == 1 && (CL g == 2 || CL g == 3) && decide (g < 900)) = true) (hy : vp_nar (if CL g = 2 then .byte else .boolean) y = y') (h0 : 0 ≤ J) (h1 : J < LN g) (ht : FT g J.toNat = (0, l, u)) (hv : l ≤ y'.toInt ∧ y'.toInt ≤ u) (hσ : WT σ) (hF : Fr W σ0 σ) (hW : W.contains (g, 0) = true)
    (k : ∀ σ', WT σ' → Fr W σ0 σ' → (σ' a)[J.toNat]? = some (.int y') → (∀ b i, (b ≠ a ∨ i ≠ J.toNat) → (σ' b)[i]? = (σ b)[i]?) → En fr lo scr F P (pc + 1) lv r σ') : En fr lo scr F P pc lv (.int y :: .int j :: .ref a :: r) σ := by
  simp only [Bool.and_eq_true, Bool.or_eq_true, beq_iff_eq, decide_eq_true_eq] at hg
  obtain ⟨⟨g1, g2⟩, g4⟩ := hg
  have hl := WT_len hσ ha g4
  have e : SL g J.toNat = 0 := by unfold SL; rw [if_neg (by omega)]
  obtain ⟨w, σ', gg, hp⟩ := k (pt σ a ((σ a).set J.toNat (.int y'))) (WT_pt hσ ha (by rw [ht]; exact ⟨rfl, hv⟩)) (Fr_pt hF ha (by rw [e]; exact hW)) (pt_at (by omega)) (fun b i h => pt_ne h)
  refine ⟨w, σ', Go_W hf rfl (pc' := pc + 1) (st' := r) (h' := HP (pt σ a ((σ a).set J.toNat (.int y')))) ?_ gg, hp⟩
  show oB (HP σ)[a]? _ = _
  refine oB_mk (HP_get (shp ha g4)) (oC_mk (by dsimp only; rw [toNat32 hJ]; simp only [Bool.and_eq_true, Bool.or_eq_true, beq_iff_eq, decide_eq_true_eq]; exact ⟨⟨⟨⟨rfl, g1⟩, g2⟩, nonneg32 hJ h0⟩, by omega⟩) ?_)
  rw [← HP_set (shp ha g4)]
  dsimp only
  rw [g1, toNat32 hJ, show asI (.int y) = y from rfl, hy]
theorem En_last {a g : Nat} {j : Int32} {y : Int64} {J l u : Int} (hf : fc F pc = some (.lastore, len, tgt)) (hJ : j.toInt = J) (ha : TG a = g) (hg : (KD g == 2 && CL g == 1 && decide (g < 900)) = true) (h0 : 0 ≤ J) (h1 : J < LN g) (ht : FT g J.toNat = (1, l, u)) (hv : l ≤ y.toInt ∧ y.toInt ≤ u) (hσ : WT σ) (hF : Fr W σ0 σ) (hW : W.contains (g, 0) = true)
    (k : ∀ σ', WT σ' → Fr W σ0 σ' → (σ' a)[J.toNat]? = some (.long y) → (∀ b i, (b ≠ a ∨ i ≠ J.toNat) → (σ' b)[i]? = (σ b)[i]?) → En fr lo scr F P (pc + 1) lv r σ') : En fr lo scr F P pc lv (.long y :: .int j :: .ref a :: r) σ := by
  simp only [Bool.and_eq_true, beq_iff_eq, decide_eq_true_eq] at hg
  obtain ⟨⟨g1, g2⟩, g4⟩ := hg
  have hl := WT_len hσ ha g4
  have e : SL g J.toNat = 0 := by unfold SL; rw [if_neg (by omega)]
  obtain ⟨w, σ', gg, hp⟩ := k (pt σ a ((σ a).set J.toNat (.long y))) (WT_pt hσ ha (by rw [ht]; exact ⟨rfl, hv⟩)) (Fr_pt hF ha (by rw [e]; exact hW)) (pt_at (by omega)) (fun b i h => pt_ne h)
  refine ⟨w, σ', Go_W hf rfl (pc' := pc + 1) (st' := r) (h' := HP (pt σ a ((σ a).set J.toNat (.long y)))) ?_ gg, hp⟩
  show oB (HP σ)[a]? _ = _
  refine oB_mk (HP_get (shp ha g4)) (oC_mk (by dsimp only; rw [toNat32 hJ]; simp only [Bool.and_eq_true, beq_iff_eq, decide_eq_true_eq]; exact ⟨⟨⟨⟨rfl, g1⟩, g2⟩, nonneg32 hJ h0⟩, by omega⟩) ?_)
  rw [← HP_set (shp ha g4)]
  dsimp only
  rw [g1, toNat32 hJ]
/-! calls -/
theorem En_callS {kd id : Nat} {pos : Nat × Nat} {G : MR} {Q : PO} {vs : List Value} {fr1 lo1 : Nat} (hf : fc F pc = some (i, len, tgt)) (hk : ikind i = 3) (he : fnd (mcl F) (callIx i) = some (kd, id, pos)) (hkd : callKd i kd = true) (h23 : (kd == 2 || kd == 3) = true) (hG : MT id = some G) (hvs : (st.take (mnp G)).reverse = vs) (hr : st.drop (mnp G) = r)
    (hb : (decide (mnp G ≤ st.length) && decide (1 ≤ fr) && decide (mml G + 19 ≤ lo) && decide (cats r ≤ 8) && decide (cats (st.take (mnp G)) ≤ mml G)) = true) (gc : En fr1 lo1 none G Q 0 (lv_args 0 vs) [] σ) (h1 : fr1 ≤ fr - 1) (h2 : lo1 ≤ lo - (mml G + 19))
    (k : ∀ v σ', Q v σ' → En fr lo scr F P (pc + 3) lv (v.toList ++ r) σ') : En fr lo scr F P pc lv st σ := by
  obtain ⟨v, σ1, g1, q⟩ := gc
  obtain ⟨w, σ2, g2, p⟩ := k v σ1 q
  have hk2 : kd = 2 ∨ kd = 3 := by simpa using h23
  have en : nArg kd G = mnp G := by unfold nArg; rw [if_pos hk2]
  refine ⟨w, σ2, Go_call hf hk he hkd (by omega) hG (by rw [en]; exact hvs) (by rw [en]; exact hr) ?_ (Go_room g1 h1 h2) g2, p⟩
  rw [en]
  simp only [Bool.and_eq_true, decide_eq_true_eq] at hb ⊢
  refine ⟨hb, ?_⟩
  rcases hk2 with rfl | rfl <;> rfl
theorem En_callV {kd id a g : Nat} {pos : Nat × Nat} {G : MR} {Q : PO} {vs : List Value} {fr1 lo1 : Nat} (hf : fc F pc = some (i, len, tgt)) (hk : ikind i = 3) (he : fnd (mcl F) (callIx i) = some (kd, id, pos)) (hkd : callKd i kd = true) (h01 : (kd == 0 || kd == 1) = true) (hG : MT id = some G) (hvs : (st.take (mnp G + 1)).reverse = .ref a :: vs) (hr : st.drop (mnp G + 1) = r) (ha : TG a = g) (hg : (KD g == 0 && CL g == mci G && decide (g < 900)) = true)
    (hb : (decide (mnp G + 1 ≤ st.length) && decide (1 ≤ fr) && decide (mml G + 19 ≤ lo) && decide (cats r ≤ 8) && decide (cats (st.take (mnp G + 1)) ≤ mml G)) = true) (gc : En fr1 lo1 none G Q 0 (lv_args 0 (.ref a :: vs)) [] σ) (h1 : fr1 ≤ fr - 1) (h2 : lo1 ≤ lo - (mml G + 19))
    (k : ∀ v σ', Q v σ' → En fr lo scr F P (pc + 3) lv (v.toList ++ r) σ') : En fr lo scr F P pc lv st σ := by
  obtain ⟨v, σ1, g1, q⟩ := gc
  obtain ⟨w, σ2, g2, p⟩ := k v σ1 q
  have hk2 : kd = 0 ∨ kd = 1 := by simpa using h01
  have en : nArg kd G = mnp G + 1 := by unfold nArg; rw [if_neg (by omega)]
  simp only [Bool.and_eq_true, beq_iff_eq, decide_eq_true_eq] at hg
  obtain ⟨⟨z1, z2⟩, z4⟩ := hg
  refine ⟨w, σ2, Go_call hf hk he hkd (by omega) hG (by rw [en]; exact hvs) (by rw [en]; exact hr) ?_ (Go_room g1 h1 h2) g2, p⟩
  rw [en]
  simp only [Bool.and_eq_true, decide_eq_true_eq] at hb ⊢
  refine ⟨hb, ?_⟩
  have hc := HP_get (σ := σ) (shp ha z4)
  rcases hk2 with rfl | rfl
  · show (match (HP σ)[a]? with | some c => c.1 == 0 && c.2.1 == mci G | none => false) = true
    rw [hc]; dsimp only; rw [z1, z2]; simp
  · show (match (HP σ)[a]? with | some c => c.1 == 0 && c.2.1 == mci G | none => false) = true
    rw [hc]; dsimp only; rw [z1, z2]; simp
theorem FT_one {g j : Nat} (hk : KD g ≠ 0) (hl : (TY g).2.2.2.length = 1) : FT g j = FT g 0 := by
  obtain ⟨t, ht⟩ := List.length_eq_one_iff.mp hl
  unfold FT
  rw [ht]
  cases hk2 : KD g with
  | zero => exact absurd hk2 hk
  | succ n => rfl
theorem cpyl_at {l0 l1 : List Value} {sp dp n j : Nat} {v : Value} (hj : (cpyl l0 l1 sp dp n)[j]? = some v) : (dp ≤ j ∧ j < dp + n ∧ v = l0.getD (sp + (j - dp)) .null) ∨ (¬ (dp ≤ j ∧ j < dp + n) ∧ v = l1.getD j .null ∧ j < l1.length) := by
  unfold cpyl at hj
  rw [List.getElem?_map, Option.map_eq_some_iff] at hj
  obtain ⟨k, hk, rfl⟩ := hj
  obtain ⟨hk1, hk2⟩ := List.getElem?_eq_some_iff.mp hk
  rw [List.getElem_range] at hk2
  subst hk2
  rw [List.length_range] at hk1
  by_cases z : dp ≤ j ∧ j < dp + n
  · exact Or.inl ⟨z.1, z.2, if_pos z⟩
  · exact Or.inr ⟨z, if_neg z, hk1⟩
theorem getD_of {l : List Value} {i : Nat} {v w : Value} (h : l[i]? = some v) : l.getD i w = v := by rw [List.getD_eq_getElem?_getD, h]; rfl
theorem WT_cpy {σ : SG} {a0 a1 g0 g1 sp dp n : Nat} (hσ : WT σ) (h0 : TG a0 = g0) (h1 : TG a1 = g1) (hg0 : g0 < 900) (hg1 : g1 < 900) (hf : ∀ i j, FT g0 i = FT g1 j) (hs : sp + n ≤ LN g0) : WT (pt σ a1 (cpyl (σ a0) (σ a1) sp dp n)) := by
  intro b hb
  unfold pt
  by_cases e : b = a1
  · subst e
    rw [if_pos rfl, cpyl_len]
    refine ⟨(hσ b hb).1, fun j v hv => ?_⟩
    rcases cpyl_at hv with ⟨z1, z2, rfl⟩ | ⟨z1, rfl, z3⟩
    · obtain ⟨w, hw, ht⟩ := WT_at (j := sp + (j - dp)) hσ h0 hg0 (by omega)
      rw [getD_of hw, h1, ← hf (sp + (j - dp)) j]
      exact ht
    · obtain ⟨w, hw, ht⟩ := WT_at (j := j) hσ h1 hg1 (by rw [← WT_len hσ h1 hg1]; exact z3)
      rw [getD_of hw, h1]
      exact ht
  · rw [if_neg e]; exact hσ b hb
theorem En_copy {a0 a1 g0 g1 : Nat} {n dp sp : Int32} {N D S : Int} {kd id : Nat} {pos : Nat × Nat} (hN : n.toInt = N) (hD : dp.toInt = D) (hS : sp.toInt = S) (hf : fc F pc = some (i, len, tgt)) (hk : ikind i = 3) (he : fnd (mcl F) (callIx i) = some (kd, id, pos)) (hb : (decide (1 ≤ fr) && decide (cats r + 40 ≤ lo)) = true) (h0 : TG a0 = g0) (h1 : TG a1 = g1) (hkd : (callKd i kd && (kd == 8)) = true) (hg : (KD g0 == KD g1 && CL g0 == CL g1 && (KD g0 == 1 && CL g0 == 0 || KD g0 == 2 && CL g0 == 1) && decide (g0 < 900) && decide (g1 < 900)) = true)
    (ht : (decide ((TY g0).2.2.2.length = 1) && decide ((TY g1).2.2.2.length = 1) && decide (FT g0 0 = FT g1 0)) = true) {n0 n1 : Nat} (hl0 : LN g0 = n0) (hl1 : LN g1 = n1) (b1 : 0 ≤ N) (b2 : 0 ≤ D) (b3 : 0 ≤ S) (b4 : S + N ≤ (n0 : Int)) (b5 : D + N ≤ (n1 : Int)) (hσ : WT σ) (hF : Fr W σ0 σ) (hW : W.contains (g1, 0) = true)
    (k : ∀ σ' : SG, WT σ' → Fr W σ0 σ' → (∀ b q : Nat, b ≠ a1 → (σ' b)[q]? = (σ b)[q]?) → En fr lo scr F P (pc + 3) lv r σ') : En fr lo scr F P pc lv (.int n :: .int dp :: .ref a1 :: .int sp :: .ref a0 :: r) σ := by
  simp only [Bool.and_eq_true, Bool.or_eq_true, beq_iff_eq, decide_eq_true_eq] at hg ht hkd
  obtain ⟨⟨⟨⟨g1', g2'⟩, g3⟩, g4⟩, g5⟩ := hg
  obtain ⟨⟨t1, t2⟩, t3⟩ := ht
  have k0 : KD g0 ≠ 0 := by rcases g3 with z | z <;> omega
  have hff : ∀ i j, FT g0 i = FT g1 j := fun i j => by rw [FT_one k0 t1, FT_one (by omega) t2, t3]
  have hw := WT_cpy (sp := S.toNat) (dp := D.toNat) (n := N.toNat) hσ h0 h1 g4 g5 hff (by omega)
  have hne : ∀ b q : Nat, b ≠ a1 → (pt σ a1 (cpyl (σ a0) (σ a1) S.toNat D.toNat N.toNat) b)[q]? = (σ b)[q]? := fun b q hb => by unfold pt; rw [if_neg hb]
  have hsl : ∀ q, SL g1 q = 0 := fun q => by unfold SL; rw [if_neg (by omega)]
  have hfr : Fr W σ0 (pt σ a1 (cpyl (σ a0) (σ a1) S.toNat D.toNat N.toNat)) := by
    intro b q hb
    by_cases e : b = a1
    · subst e
      rw [h1, hsl, hW] at hb
      cases hb
    · rw [hne b q e]; exact hF b q hb
  obtain ⟨w, σ', gg, hp⟩ := k _ hw hfr hne
  have hc0 := HP_get (σ := σ) (shp h0 g4)
  have hc1 := HP_get (σ := σ) (shp h1 g5)
  have l0 := WT_len hσ h0 g4
  have l1 := WT_len hσ h1 g5
  refine ⟨w, σ', Go_copy (idx := (0, 0)) (pos := (0, 0)) hf hk he hkd.1 hkd.2 (st2 := r) (h' := HP (pt σ a1 (cpyl (σ a0) (σ a1) S.toNat D.toNat N.toNat))) ?_ hb gg, hp⟩
  unfold acopy
  refine oB_mk hc0 (oB_mk hc1 (oC_mk ?_ ?_))
  · dsimp only
    simp only [Bool.and_eq_true, Bool.or_eq_true, beq_iff_eq, decide_eq_true_eq]
    rw [toNat32 hN, toNat32 hD, toNat32 hS]
    exact ⟨⟨⟨⟨⟨⟨⟨nonneg32 hS b3, nonneg32 hD b2⟩, nonneg32 hN b1⟩, g1'⟩, g2'⟩, g3⟩, by omega⟩, by omega⟩
  · dsimp only
    rw [toNat32 hN, toNat32 hD, toNat32 hS, HP_set (shp h1 g5)]
/-! numbers on the stack: named, with what is known of them -/
theorem En_hav {x : Int32} (k : ∀ z : Int32, En fr lo scr F P pc lv (.int z :: r) σ) : En fr lo scr F P pc lv (.int x :: r) σ := k x
theorem En_havL {x : Int64} (k : ∀ z : Int64, En fr lo scr F P pc lv (.long z :: r) σ) : En fr lo scr F P pc lv (.long x :: r) σ := k x
theorem En_top {x : Int32} {X : Int} (hX : x.toInt = X) (k : ∀ z : Int32, z.toInt = X → En fr lo scr F P pc lv (.int z :: r) σ) : En fr lo scr F P pc lv (.int x :: r) σ := k x hX
theorem En_rng {x : Int32} {l u : Int} (hX : l ≤ x.toInt ∧ x.toInt ≤ u) (k : ∀ z : Int32, l ≤ z.toInt → z.toInt ≤ u → En fr lo scr F P pc lv (.int z :: r) σ) : En fr lo scr F P pc lv (.int x :: r) σ := k x hX.1 hX.2
end EN
theorem addI {x y : Int32} {X Y : Int} (hX : x.toInt = X) (hY : y.toInt = Y) (h1 : -2147483648 ≤ X + Y) (h2 : X + Y ≤ 2147483647) : (x + y).toInt = X + Y := by
  rw [Int32.toInt_add, hX, hY]
  exact Int.bmod_eq_of_le (by omega) (by omega)
theorem subI {x y : Int32} {X Y : Int} (hX : x.toInt = X) (hY : y.toInt = Y) (h1 : -2147483648 ≤ X - Y) (h2 : X - Y ≤ 2147483647) : (x - y).toInt = X - Y := by
  rw [Int32.toInt_sub, hX, hY]
  exact Int.bmod_eq_of_le (by omega) (by omega)
theorem mulI {x y : Int32} {X Y Z : Int} (hX : x.toInt = X) (hY : y.toInt = Y) (hZ : X * Y = Z) (h1 : -2147483648 ≤ Z) (h2 : Z ≤ 2147483647) : (x * y).toInt = Z := by
  rw [Int32.toInt_mul, hX, hY, hZ]
  exact Int.bmod_eq_of_le (by omega) (by omega)
theorem tgz_0 : TG 0 = 0 := by decide +kernel
theorem tgz_1 : TG 1 = 1 := by decide +kernel
theorem tgz_2 : TG 2 = 2 := by decide +kernel
theorem tgz_3 : TG 3 = 3 := by decide +kernel
theorem tgz_4 : TG 4 = 4 := by decide +kernel
theorem tgz_5 : TG 5 = 5 := by decide +kernel
theorem tgz_6 : TG 6 = 6 := by decide +kernel
theorem tgz_7 : TG 7 = 7 := by decide +kernel
theorem tgz_8 : TG 8 = 8 := by decide +kernel
theorem tgz_9 : TG 9 = 9 := by decide +kernel
theorem tgz_10 : TG 10 = 10 := by decide +kernel
theorem tgz_11 : TG 11 = 11 := by decide +kernel
theorem tgz_12 : TG 12 = 12 := by decide +kernel
theorem tgz_13 : TG 13 = 13 := by decide +kernel
theorem tgz_14 : TG 14 = 14 := by decide +kernel
theorem tgz_15 : TG 15 = 15 := by decide +kernel
theorem tgz_16 : TG 16 = 16 := by decide +kernel
theorem tgz_17 : TG 17 = 17 := by decide +kernel
theorem tgz_70 : TG 70 = 29 := by decide +kernel
theorem tgz_71 : TG 71 = 30 := by decide +kernel
theorem tgz_150 : TG 150 = 32 := by decide +kernel
theorem tgz_159 : TG 159 = 35 := by decide +kernel
theorem tgz_160 : TG 160 = 36 := by decide +kernel
theorem tgz_161 : TG 161 = 37 := by decide +kernel
theorem tgz_162 : TG 162 = 38 := by decide +kernel
theorem tgz_163 : TG 163 = 39 := by decide +kernel
theorem tgz_164 : TG 164 = 40 := by decide +kernel
theorem tgz_165 : TG 165 = 41 := by decide +kernel
theorem tgz_166 : TG 166 = 42 := by decide +kernel
theorem tgz_167 : TG 167 = 43 := by decide +kernel
theorem tgz_168 : TG 168 = 44 := by decide +kernel
theorem tgz_169 : TG 169 = 45 := by decide +kernel
theorem tgz_170 : TG 170 = 46 := by decide +kernel
theorem tgz_171 : TG 171 = 47 := by decide +kernel
theorem tgz_172 : TG 172 = 48 := by decide +kernel
theorem tgz_173 : TG 173 = 49 := by decide +kernel
theorem tgz_174 : TG 174 = 50 := by decide +kernel
theorem tgz_175 : TG 175 = 51 := by decide +kernel
theorem tgz_177 : TG 177 = 53 := by decide +kernel
theorem tgz_178 : TG 178 = 54 := by decide +kernel
theorem tgz_179 : TG 179 = 55 := by decide +kernel
theorem tgz_180 : TG 180 = 56 := by decide +kernel
