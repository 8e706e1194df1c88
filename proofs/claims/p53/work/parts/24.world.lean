abbrev zU {α : Type} (f : Nat → α) (k : Nat) (v : α) : Nat → α := fun j => cond (Nat.beq j k) v (f j)
abbrev zSw {α : Type} (f : Nat → α) (lo w j : Nat) : Nat → α := fun k => cond (Nat.ble lo k && Nat.ble (k + 1) (lo + w)) (f (k + w * j)) (cond (Nat.ble (lo + w * j) k && Nat.ble (k + 1) (lo + w * j + w)) (f (k - w * j)) (f k))
abbrev zMv {α : Type} (f : Nat → α) (lo w j : Nat) : Nat → α := fun k => cond (Nat.ble (lo + w * j) k && Nat.ble (k + 1) (lo + w * j + w)) (f (k - w * j)) (f k)
def zFull (ad : Nat → Nat) (cA : Nat → ClassId) (iv : Nat → Int32) (lw : Nat → Int64) (fi : Nat → Nat → Int32) (fl : Nat → Nat → Int64) (fo : Nat → Nat → Option Nat) : va_W := [((ad 0), .inr (9, [.ref (ad 32), .int (iv 0), .int (iv 1), .int (iv 2), .ref (ad 65), .ref (ad 33), .ref (ad 34), .ref (ad 35), .ref (ad 40), .ref (ad 48), .ref (ad 51), .ref (ad 57), .ref (ad 64)])), ((ad 1), .inr (10, [.int (iv 3), .ref (ad 2), .ref (ad 3), .ref (ad 4), .ref (ad 5), .ref (ad 6), .int (iv 4), .int (iv 5), .int (iv 6), .int (iv 7), .int (iv 8), .long (lw 0), .int (iv 9), .int (iv 10), .int (iv 11), .int (iv 12), .ref (ad 7), .ref (ad 8), .ref (ad 9), .ref (ad 10), .ref (ad 11), .ref (ad 12), .ref (ad 13), .ref (ad 14), .ref (ad 15), .ref (ad 16), .ref (ad 17), .ref (ad 18), .ref (ad 19), .ref (ad 20), .int (iv 13), .int (iv 14), .int (iv 15), .int (iv 16), .ref (ad 21), .ref (ad 22), .ref (ad 23), .ref (ad 24), .ref (ad 25), .ref (ad 26), .ref (ad 27), .ref (ad 28), .ref (ad 29), .int (iv 17), .ref (ad 30), .ref (ad 31), .int (iv 18), .long (lw 1), .int (iv 19), .int (iv 20), .int (iv 21), .int (iv 22), .long (lw 2)])), ((ad 2), .inl ((cA 2), 4, .inl (fi 2))), ((ad 3), .inl ((cA 3), 4, .inl (fi 3))), ((ad 4), .inl ((cA 4), 240, .inr (.inl (fl 4)))), ((ad 5), .inl ((cA 5), 60, .inr (.inl (fl 5)))), ((ad 6), .inl ((cA 6), 1600, .inl (fi 6))), ((ad 7), .inl ((cA 7), 5, .inl (fi 7))), ((ad 8), .inl ((cA 8), 5, .inl (fi 8))), ((ad 9), .inl ((cA 9), 5, .inl (fi 9))), ((ad 10), .inl ((cA 10), 50, .inl (fi 10))), ((ad 11), .inl ((cA 11), 5, .inl (fi 11))), ((ad 12), .inl ((cA 12), 160, .inl (fi 12))), ((ad 13), .inl ((cA 13), 5, .inl (fi 13))), ((ad 14), .inl ((cA 14), 2400, .inl (fi 14))), ((ad 15), .inl ((cA 15), 100, .inl (fi 15))), ((ad 16), .inl ((cA 16), 10, .inl (fi 16))), ((ad 17), .inl ((cA 17), 10, .inl (fi 17))), ((ad 18), .inl ((cA 18), 10, .inl (fi 18))), ((ad 19), .inl ((cA 19), 50, .inl (fi 19))), ((ad 20), .inl ((cA 20), 3, .inl (fi 20))), ((ad 21), .inl ((cA 21), 480, .inl (fi 21))), ((ad 22), .inl ((cA 22), 49, .inl (fi 22))), ((ad 23), .inl ((cA 23), 490, .inl (fi 23))), ((ad 24), .inl ((cA 24), 10, .inr (.inl (fl 24)))), ((ad 25), .inl ((cA 25), 10, .inr (.inl (fl 25)))), ((ad 26), .inl ((cA 26), 100, .inl (fi 26))), ((ad 27), .inl ((cA 27), 100, .inl (fi 27))), ((ad 28), .inl ((cA 28), 1000, .inl (fi 28))), ((ad 29), .inl ((cA 29), 1000, .inl (fi 29))), ((ad 30), .inl ((cA 30), 39690, .inr (.inl (fl 30)))), ((ad 31), .inl ((cA 31), 10, .inl (fi 31))), ((ad 32), .inl ((cA 32), 1600, .inl (fi 32))), ((ad 33), .inl ((cA 33), 3, .inr (.inr (.inr (.inr (fo 33)))))), ((ad 34), .inl ((cA 34), 4, .inr (.inr (.inr (.inr (fo 34)))))), ((ad 35), .inr (5, [.int (iv 23), .int (iv 24), .ref (ad 121), .ref (ad 36), .ref (ad 37), .ref (ad 38), .ref (ad 39), .int (iv 25), .int (iv 26), .ref (ad 122), .int (iv 27), .int (iv 28), .int (iv 29)])), ((ad 36), .inl ((cA 36), 1601, .inl (fi 36))), ((ad 37), .inl ((cA 37), 1601, .inl (fi 37))), ((ad 38), .inl ((cA 38), 1601, .inl (fi 38))), ((ad 39), .inl ((cA 39), 1601, .inl (fi 39))), ((ad 40), .inr (8, [.int (iv 30), .int (iv 31), .int (iv 32), .ref (ad 123), .ref (ad 41), .ref (ad 42), .ref (ad 43), .ref (ad 44), .ref (ad 45), .ref (ad 46), .ref (ad 47)])), ((ad 41), .inl ((cA 41), 48, .inl (fi 41))), ((ad 42), .inl ((cA 42), 48, .inl (fi 42))), ((ad 43), .inl ((cA 43), 10, .inl (fi 43))), ((ad 44), .inl ((cA 44), 10, .inl (fi 44))), ((ad 45), .inl ((cA 45), 10, .inl (fi 45))), ((ad 46), .inl ((cA 46), 10, .inr (.inl (fl 46)))), ((ad 47), .inl ((cA 47), 10, .inr (.inl (fl 47)))), ((ad 48), .inr (2, [.ref (ad 124), .int (iv 33), .ref (ad 49), .ref (ad 50)])), ((ad 49), .inl ((cA 49), 160, .inr (.inl (fl 49)))), ((ad 50), .inl ((cA 50), 160, .inr (.inl (fl 50)))), ((ad 51), .inr (4, [.ref (ad 52), .ref (ad 53), .ref (ad 54), .ref (ad 55), .ref (ad 56)])), ((ad 52), .inl ((cA 52), 10, .inl (fi 52))), ((ad 53), .inl ((cA 53), 10, .inl (fi 53))), ((ad 54), .inl ((cA 54), 100, .inl (fi 54))), ((ad 55), .inl ((cA 55), 100, .inl (fi 55))), ((ad 56), .inl ((cA 56), 100, .inl (fi 56))), ((ad 57), .inr (0, [.ref (ad 125), .int (iv 34), .int (iv 35), .int (iv 36), .int (iv 37), .ref (ad 58), .ref (ad 59), .int (iv 38), .int (iv 39), .ref (ad 60), .int (iv 40), .ref (ad 61), .ref (ad 62), .ref (ad 63), .int (iv 41), .int (iv 42), .int (iv 43)])), ((ad 58), .inl ((cA 58), 4, .inl (fi 58))), ((ad 59), .inl ((cA 59), 10, .inl (fi 59))), ((ad 60), .inl ((cA 60), 38880, .inl (fi 60))), ((ad 61), .inl ((cA 61), 4, .inl (fi 61))), ((ad 62), .inl ((cA 62), 4, .inl (fi 62))), ((ad 63), .inl ((cA 63), 4, .inl (fi 63))), ((ad 64), .inr (1, [.int (iv 44), .int (iv 45), .int (iv 46), .int (iv 47)])), ((ad 65), .inr (3, [.int (iv 48), .ref (ad 77), .int (iv 49), .int (iv 50), .int (iv 51), .int (iv 52)])), ((ad 66), .inr (3, [.int (iv 53), .ref (ad 126), .int (iv 54), .int (iv 55), .int (iv 56), .int (iv 57)])), ((ad 67), .inr (3, [.int (iv 58), .ref (ad 127), .int (iv 59), .int (iv 60), .int (iv 61), .int (iv 62)])), ((ad 68), .inr (3, [.int (iv 63), .ref (ad 128), .int (iv 64), .int (iv 65), .int (iv 66), .int (iv 67)])), ((ad 69), .inr (6, [.int (iv 68), .int (iv 69), .ref (ad 70)])), ((ad 70), .inl ((cA 70), 60, .inr (.inl (fl 70)))), ((ad 71), .inr (6, [.int (iv 70), .int (iv 71), .ref (ad 72)])), ((ad 72), .inl ((cA 72), 60, .inr (.inl (fl 72)))), ((ad 73), .inr (6, [.int (iv 72), .int (iv 73), .ref (ad 74)])), ((ad 74), .inl ((cA 74), 60, .inr (.inl (fl 74)))), ((ad 75), .inr (6, [.int (iv 74), .int (iv 75), .ref (ad 76)])), ((ad 76), .inl ((cA 76), 60, .inr (.inl (fl 76)))), ((ad 77), .inr (7, [.int (iv 76), .int (iv 77), .int (iv 78), .int (iv 79), .int (iv 80), .int (iv 81), .int (iv 82), .int (iv 83), .ref (ad 78), .ref (ad 79), .ref (ad 80), .ref (ad 81), .ref (ad 82), .ref (ad 83), .ref (ad 84), .ref (ad 85), .ref (ad 86), .ref (ad 87)])), ((ad 78), .inl ((cA 78), 10, .inl (fi 78))), ((ad 79), .inl ((cA 79), 10, .inl (fi 79))), ((ad 80), .inl ((cA 80), 10, .inl (fi 80))), ((ad 81), .inl ((cA 81), 100, .inl (fi 81))), ((ad 82), .inl ((cA 82), 10, .inl (fi 82))), ((ad 83), .inl ((cA 83), 16, .inl (fi 83))), ((ad 84), .inl ((cA 84), 16, .inl (fi 84))), ((ad 85), .inl ((cA 85), 480, .inl (fi 85))), ((ad 86), .inl ((cA 86), 10, .inl (fi 86))), ((ad 87), .inl ((cA 87), 10, .inl (fi 87))), ((ad 88), .inr (7, [.int (iv 84), .int (iv 85), .int (iv 86), .int (iv 87), .int (iv 88), .int (iv 89), .int (iv 90), .int (iv 91), .ref (ad 89), .ref (ad 90), .ref (ad 91), .ref (ad 92), .ref (ad 93), .ref (ad 94), .ref (ad 95), .ref (ad 96), .ref (ad 97), .ref (ad 98)])), ((ad 89), .inl ((cA 89), 10, .inl (fi 89))), ((ad 90), .inl ((cA 90), 10, .inl (fi 90))), ((ad 91), .inl ((cA 91), 10, .inl (fi 91))), ((ad 92), .inl ((cA 92), 100, .inl (fi 92))), ((ad 93), .inl ((cA 93), 10, .inl (fi 93))), ((ad 94), .inl ((cA 94), 16, .inl (fi 94))), ((ad 95), .inl ((cA 95), 16, .inl (fi 95))), ((ad 96), .inl ((cA 96), 480, .inl (fi 96))), ((ad 97), .inl ((cA 97), 10, .inl (fi 97))), ((ad 98), .inl ((cA 98), 10, .inl (fi 98))), ((ad 99), .inr (7, [.int (iv 92), .int (iv 93), .int (iv 94), .int (iv 95), .int (iv 96), .int (iv 97), .int (iv 98), .int (iv 99), .ref (ad 100), .ref (ad 101), .ref (ad 102), .ref (ad 103), .ref (ad 104), .ref (ad 105), .ref (ad 106), .ref (ad 107), .ref (ad 108), .ref (ad 109)])), ((ad 100), .inl ((cA 100), 10, .inl (fi 100))), ((ad 101), .inl ((cA 101), 10, .inl (fi 101))), ((ad 102), .inl ((cA 102), 10, .inl (fi 102))), ((ad 103), .inl ((cA 103), 100, .inl (fi 103))), ((ad 104), .inl ((cA 104), 10, .inl (fi 104))), ((ad 105), .inl ((cA 105), 16, .inl (fi 105))), ((ad 106), .inl ((cA 106), 16, .inl (fi 106))), ((ad 107), .inl ((cA 107), 480, .inl (fi 107))), ((ad 108), .inl ((cA 108), 10, .inl (fi 108))), ((ad 109), .inl ((cA 109), 10, .inl (fi 109))), ((ad 110), .inr (7, [.int (iv 100), .int (iv 101), .int (iv 102), .int (iv 103), .int (iv 104), .int (iv 105), .int (iv 106), .int (iv 107), .ref (ad 111), .ref (ad 112), .ref (ad 113), .ref (ad 114), .ref (ad 115), .ref (ad 116), .ref (ad 117), .ref (ad 118), .ref (ad 119), .ref (ad 120)])), ((ad 111), .inl ((cA 111), 10, .inl (fi 111))), ((ad 112), .inl ((cA 112), 10, .inl (fi 112))), ((ad 113), .inl ((cA 113), 10, .inl (fi 113))), ((ad 114), .inl ((cA 114), 100, .inl (fi 114))), ((ad 115), .inl ((cA 115), 10, .inl (fi 115))), ((ad 116), .inl ((cA 116), 16, .inl (fi 116))), ((ad 117), .inl ((cA 117), 16, .inl (fi 117))), ((ad 118), .inl ((cA 118), 480, .inl (fi 118))), ((ad 119), .inl ((cA 119), 10, .inl (fi 119))), ((ad 120), .inl ((cA 120), 10, .inl (fi 120)))]
def zTys (cA : Nat → ClassId) : List (ClassId × FieldType) := [((cA 2), .int), ((cA 3), .int), ((cA 4), .long), ((cA 5), .long), ((cA 6), .byte), ((cA 7), .int), ((cA 8), .int), ((cA 9), .int), ((cA 10), .int), ((cA 11), .int), ((cA 12), .int), ((cA 13), .int), ((cA 14), .int), ((cA 15), .int), ((cA 16), .int), ((cA 17), .boolean), ((cA 18), .int), ((cA 19), .int), ((cA 20), .boolean), ((cA 21), .int), ((cA 22), .int), ((cA 23), .int), ((cA 24), .long), ((cA 25), .long), ((cA 26), .boolean), ((cA 27), .boolean), ((cA 28), .boolean), ((cA 29), .boolean), ((cA 30), .long), ((cA 31), .int), ((cA 32), .byte), ((cA 33), .object RX3), ((cA 34), .object RX6), ((cA 36), .int), ((cA 37), .int), ((cA 38), .int), ((cA 39), .int), ((cA 41), .int), ((cA 42), .int), ((cA 43), .int), ((cA 44), .int), ((cA 45), .int), ((cA 46), .long), ((cA 47), .long), ((cA 49), .long), ((cA 50), .long), ((cA 52), .int), ((cA 53), .int), ((cA 54), .int), ((cA 55), .int), ((cA 56), .int), ((cA 58), .int), ((cA 59), .int), ((cA 60), .int), ((cA 61), .int), ((cA 62), .int), ((cA 63), .int), ((cA 70), .long), ((cA 72), .long), ((cA 74), .long), ((cA 76), .long), ((cA 78), .int), ((cA 79), .int), ((cA 80), .int), ((cA 81), .int), ((cA 82), .int), ((cA 83), .int), ((cA 84), .int), ((cA 85), .int), ((cA 86), .int), ((cA 87), .int), ((cA 89), .int), ((cA 90), .int), ((cA 91), .int), ((cA 92), .int), ((cA 93), .int), ((cA 94), .int), ((cA 95), .int), ((cA 96), .int), ((cA 97), .int), ((cA 98), .int), ((cA 100), .int), ((cA 101), .int), ((cA 102), .int), ((cA 103), .int), ((cA 104), .int), ((cA 105), .int), ((cA 106), .int), ((cA 107), .int), ((cA 108), .int), ((cA 109), .int), ((cA 111), .int), ((cA 112), .int), ((cA 113), .int), ((cA 114), .int), ((cA 115), .int), ((cA 116), .int), ((cA 117), .int), ((cA 118), .int), ((cA 119), .int), ((cA 120), .int)]
def zFacts (ad : Nat → Nat) (cA : Nat → ClassId) (iv : Nat → Int32) (lw : Nat → Int64) (fi : Nat → Nat → Int32) (fl : Nat → Nat → Int64) (fo : Nat → Nat → Option Nat) : Prop := (0 ≤ (iv 0).toInt ∧ (iv 0).toInt ≤ 1600) ∧ (0 ≤ (iv 4).toInt ∧ (iv 4).toInt ≤ 1600) ∧ (0 ≤ (iv 5).toInt ∧ (iv 5).toInt ≤ 1600) ∧ (0 ≤ (iv 6).toInt ∧ (iv 6).toInt ≤ 4) ∧ (0 ≤ (iv 8).toInt ∧ (iv 8).toInt ≤ 1000009) ∧ (0 ≤ (iv 9).toInt ∧ (iv 9).toInt ≤ 3) ∧ (0 ≤ (iv 13).toInt ∧ (iv 13).toInt ≤ 5) ∧ (0 ≤ (iv 15).toInt ∧ (iv 15).toInt ≤ 9) ∧ (0 ≤ (iv 20).toInt ∧ (iv 20).toInt ≤ 9) ∧ (0 ≤ (iv 21).toInt ∧ (iv 21).toInt ≤ 48) ∧ (∀ j : Nat, (-1) ≤ ((fi 2) j).toInt ∧ ((fi 2) j).toInt ≤ 3) ∧ (∀ j : Nat, 0 ≤ ((fi 3) j).toInt ∧ ((fi 3) j).toInt ≤ 60) ∧ (∀ j : Nat, 0 ≤ ((fi 8) j).toInt ∧ ((fi 8) j).toInt ≤ 48) ∧ (∀ j : Nat, 0 ≤ ((fi 9) j).toInt ∧ ((fi 9) j).toInt ≤ 10) ∧ (∀ j : Nat, ¬ j % 10 = 0 → (-1) ≤ ((fi 10) j).toInt ∧ ((fi 10) j).toInt < ((j % 10 : Nat) : Int)) ∧ (∀ j : Nat, 0 ≤ ((fi 11) j).toInt ∧ ((fi 11) j).toInt ≤ 16) ∧ (∀ j : Nat, 0 ≤ ((fi 12) j).toInt ∧ ((fi 12) j).toInt ≤ 9) ∧ (∀ j : Nat, 0 ≤ ((fi 13) j).toInt ∧ ((fi 13) j).toInt ≤ 10) ∧ (∀ j : Nat, 0 ≤ ((fi 14) j).toInt ∧ ((fi 14) j).toInt ≤ 9) ∧ (∀ j : Nat, 0 ≤ ((fi 15) j).toInt ∧ ((fi 15) j).toInt ≤ 99 ∧ (j % 2 = 1 → ((fi 15) j).toInt ≤ 9)) ∧ (∀ j : Nat, 0 ≤ ((fi 16) j).toInt ∧ ((fi 16) j).toInt ≤ 9) ∧ (∀ j : Nat, 0 ≤ ((fi 19) j).toInt ∧ ((fi 19) j).toInt ≤ 2) ∧ (∀ j : Nat, 0 ≤ ((fi 31) j).toInt ∧ ((fi 31) j).toInt ≤ 81) ∧ ((fo 33) 0 = some (ad 66)) ∧ ((fo 33) 1 = some (ad 67)) ∧ ((fo 33) 2 = some (ad 68)) ∧ ((fo 34) 0 = some (ad 69)) ∧ ((fo 34) 1 = some (ad 71)) ∧ ((fo 34) 2 = some (ad 73)) ∧ ((fo 34) 3 = some (ad 75)) ∧ (0 ≤ (iv 25).toInt ∧ (iv 25).toInt ≤ 1600) ∧ (0 ≤ (iv 26).toInt ∧ (iv 26).toInt ≤ 1600) ∧ (0 ≤ (iv 27).toInt ∧ (iv 27).toInt ≤ 4) ∧ (0 ≤ (iv 28).toInt ∧ (iv 28).toInt ≤ 1) ∧ (0 ≤ (iv 29).toInt ∧ (iv 29).toInt ≤ 1) ∧ (∀ j : Nat, 0 ≤ ((fi 36) j).toInt ∧ ((fi 36) j).toInt ≤ 5) ∧ (∀ j : Nat, 0 ≤ ((fi 37) j).toInt ∧ ((fi 37) j).toInt ≤ 1600) ∧ (∀ j : Nat, 0 ≤ ((fi 38) j).toInt ∧ ((fi 38) j).toInt ≤ 1600) ∧ (∀ j : Nat, 0 ≤ ((fi 39) j).toInt ∧ ((fi 39) j).toInt ≤ 100000) ∧ ((-1) ≤ (iv 31).toInt ∧ (iv 31).toInt ≤ 15) ∧ ((-1) ≤ (iv 32).toInt ∧ (iv 32).toInt ≤ 47) ∧ (∀ j : Nat, 0 ≤ ((fi 44) j).toInt ∧ ((fi 44) j).toInt ≤ 1001) ∧ (∀ j : Nat, 0 ≤ ((fi 45) j).toInt ∧ ((fi 45) j).toInt ≤ 1001) ∧ (0 ≤ (iv 37).toInt ∧ (iv 37).toInt ≤ 48) ∧ (0 ≤ (iv 38).toInt ∧ (iv 38).toInt ≤ 4) ∧ (∀ j : Nat, 0 ≤ ((fi 58) j).toInt ∧ ((fi 58) j).toInt ≤ 9) ∧ (∀ j : Nat, (-1) ≤ ((fi 59) j).toInt ∧ ((fi 59) j).toInt ≤ 3) ∧ (∀ j : Nat, 0 ≤ ((fi 60) j).toInt ∧ ((fi 60) j).toInt ≤ 1000000000) ∧ (∀ j : Nat, 0 ≤ ((fi 63) j).toInt ∧ ((fi 63) j).toInt ≤ 2) ∧ (0 ≤ (iv 45).toInt ∧ (iv 45).toInt ≤ 9) ∧ (0 ≤ (iv 46).toInt ∧ (iv 46).toInt ≤ 48) ∧ (0 ≤ (iv 48).toInt ∧ (iv 48).toInt ≤ 1) ∧ (0 ≤ (iv 50).toInt ∧ (iv 50).toInt ≤ 1023) ∧ (0 ≤ (iv 53).toInt ∧ (iv 53).toInt ≤ 1) ∧ (0 ≤ (iv 55).toInt ∧ (iv 55).toInt ≤ 1023) ∧ (0 ≤ (iv 58).toInt ∧ (iv 58).toInt ≤ 1) ∧ (0 ≤ (iv 60).toInt ∧ (iv 60).toInt ≤ 1023) ∧ (0 ≤ (iv 63).toInt ∧ (iv 63).toInt ≤ 1) ∧ (0 ≤ (iv 65).toInt ∧ (iv 65).toInt ≤ 1023) ∧ (0 ≤ (iv 69).toInt ∧ (iv 69).toInt ≤ 60) ∧ (0 ≤ (iv 71).toInt ∧ (iv 71).toInt ≤ 60) ∧ (0 ≤ (iv 73).toInt ∧ (iv 73).toInt ≤ 60) ∧ (0 ≤ (iv 75).toInt ∧ (iv 75).toInt ≤ 60) ∧ (0 ≤ (iv 76).toInt ∧ (iv 76).toInt ≤ 48) ∧ (0 ≤ (iv 77).toInt ∧ (iv 77).toInt ≤ 10) ∧ (0 ≤ (iv 78).toInt ∧ (iv 78).toInt ≤ 16) ∧ (0 ≤ (iv 79).toInt ∧ (iv 79).toInt ≤ 10) ∧ (0 ≤ (iv 81).toInt ∧ (iv 81).toInt ≤ 9) ∧ (0 ≤ (iv 83).toInt ∧ (iv 83).toInt ≤ 1) ∧ (∀ j : Nat, 0 ≤ ((fi 80) j).toInt ∧ ((fi 80) j).toInt ≤ 10) ∧ (∀ j : Nat, 0 ≤ ((fi 81) j).toInt ∧ ((fi 81) j).toInt ≤ 9) ∧ (∀ j : Nat, 0 ≤ ((fi 83) j).toInt ∧ ((fi 83) j).toInt ≤ 9) ∧ (∀ j : Nat, 0 ≤ ((fi 84) j).toInt ∧ ((fi 84) j).toInt ≤ 9) ∧ (∀ j : Nat, 0 ≤ ((fi 85) j).toInt ∧ ((fi 85) j).toInt ≤ 9) ∧ (∀ j : Nat, 0 ≤ ((fi 86) j).toInt ∧ ((fi 86) j).toInt ≤ 99) ∧ (∀ j : Nat, 0 ≤ ((fi 87) j).toInt ∧ ((fi 87) j).toInt ≤ 9) ∧ (0 ≤ (iv 84).toInt ∧ (iv 84).toInt ≤ 48) ∧ (0 ≤ (iv 85).toInt ∧ (iv 85).toInt ≤ 10) ∧ (0 ≤ (iv 86).toInt ∧ (iv 86).toInt ≤ 16) ∧ (0 ≤ (iv 87).toInt ∧ (iv 87).toInt ≤ 10) ∧ (0 ≤ (iv 89).toInt ∧ (iv 89).toInt ≤ 9) ∧ (0 ≤ (iv 91).toInt ∧ (iv 91).toInt ≤ 1) ∧ (∀ j : Nat, 0 ≤ ((fi 91) j).toInt ∧ ((fi 91) j).toInt ≤ 10) ∧ (∀ j : Nat, 0 ≤ ((fi 92) j).toInt ∧ ((fi 92) j).toInt ≤ 9) ∧ (∀ j : Nat, 0 ≤ ((fi 94) j).toInt ∧ ((fi 94) j).toInt ≤ 9) ∧ (∀ j : Nat, 0 ≤ ((fi 95) j).toInt ∧ ((fi 95) j).toInt ≤ 9) ∧ (∀ j : Nat, 0 ≤ ((fi 96) j).toInt ∧ ((fi 96) j).toInt ≤ 9) ∧ (∀ j : Nat, 0 ≤ ((fi 97) j).toInt ∧ ((fi 97) j).toInt ≤ 99) ∧ (∀ j : Nat, 0 ≤ ((fi 98) j).toInt ∧ ((fi 98) j).toInt ≤ 9) ∧ (0 ≤ (iv 92).toInt ∧ (iv 92).toInt ≤ 48) ∧ (0 ≤ (iv 93).toInt ∧ (iv 93).toInt ≤ 10) ∧ (0 ≤ (iv 94).toInt ∧ (iv 94).toInt ≤ 16) ∧ (0 ≤ (iv 95).toInt ∧ (iv 95).toInt ≤ 10) ∧ (0 ≤ (iv 97).toInt ∧ (iv 97).toInt ≤ 9) ∧ (0 ≤ (iv 99).toInt ∧ (iv 99).toInt ≤ 1) ∧ (∀ j : Nat, 0 ≤ ((fi 102) j).toInt ∧ ((fi 102) j).toInt ≤ 10) ∧ (∀ j : Nat, 0 ≤ ((fi 103) j).toInt ∧ ((fi 103) j).toInt ≤ 9) ∧ (∀ j : Nat, 0 ≤ ((fi 105) j).toInt ∧ ((fi 105) j).toInt ≤ 9) ∧ (∀ j : Nat, 0 ≤ ((fi 106) j).toInt ∧ ((fi 106) j).toInt ≤ 9) ∧ (∀ j : Nat, 0 ≤ ((fi 107) j).toInt ∧ ((fi 107) j).toInt ≤ 9) ∧ (∀ j : Nat, 0 ≤ ((fi 108) j).toInt ∧ ((fi 108) j).toInt ≤ 99) ∧ (∀ j : Nat, 0 ≤ ((fi 109) j).toInt ∧ ((fi 109) j).toInt ≤ 9) ∧ (0 ≤ (iv 100).toInt ∧ (iv 100).toInt ≤ 48) ∧ (0 ≤ (iv 101).toInt ∧ (iv 101).toInt ≤ 10) ∧ (0 ≤ (iv 102).toInt ∧ (iv 102).toInt ≤ 16) ∧ (0 ≤ (iv 103).toInt ∧ (iv 103).toInt ≤ 10) ∧ (0 ≤ (iv 105).toInt ∧ (iv 105).toInt ≤ 9) ∧ (0 ≤ (iv 107).toInt ∧ (iv 107).toInt ≤ 1) ∧ (∀ j : Nat, 0 ≤ ((fi 113) j).toInt ∧ ((fi 113) j).toInt ≤ 10) ∧ (∀ j : Nat, 0 ≤ ((fi 114) j).toInt ∧ ((fi 114) j).toInt ≤ 9) ∧ (∀ j : Nat, 0 ≤ ((fi 116) j).toInt ∧ ((fi 116) j).toInt ≤ 9) ∧ (∀ j : Nat, 0 ≤ ((fi 117) j).toInt ∧ ((fi 117) j).toInt ≤ 9) ∧ (∀ j : Nat, 0 ≤ ((fi 118) j).toInt ∧ ((fi 118) j).toInt ≤ 9) ∧ (∀ j : Nat, 0 ≤ ((fi 119) j).toInt ∧ ((fi 119) j).toInt ≤ 99) ∧ (∀ j : Nat, 0 ≤ ((fi 120) j).toInt ∧ ((fi 120) j).toInt ≤ 9) ∧ (zTw (fi 83) (fi 84) (fi 79) (fi 80) (iv 78).toInt) ∧ (zTw (fi 94) (fi 95) (fi 90) (fi 91) (iv 86).toInt) ∧ (zTw (fi 105) (fi 106) (fi 101) (fi 102) (iv 94).toInt) ∧ (zTw (fi 116) (fi 117) (fi 112) (fi 113) (iv 102).toInt) ∧ (zMd (fi 10) (fi 9) (fi 8) (fi 13) (fi 15)) ∧ ((ad 126) = (ad 77) ∨ (ad 126) = (ad 88) ∨ (ad 126) = (ad 99) ∨ (ad 126) = (ad 110)) ∧ ((ad 127) = (ad 77) ∨ (ad 127) = (ad 88) ∨ (ad 127) = (ad 99) ∨ (ad 127) = (ad 110)) ∧ ((ad 128) = (ad 77) ∨ (ad 128) = (ad 88) ∨ (ad 128) = (ad 99) ∨ (ad 128) = (ad 110))
theorem zMb_zero (b : Nat) : zMb (fun _ => 0) (fun _ => 0) (fun _ => 0) (fun _ => 0) (fun _ => 0) b := by
  refine ⟨Or.inr ⟨(by decide : Int32.toInt 0 = 0), (by decide : Int32.toInt 0 = 0)⟩, ?_⟩
  rw [zCt_zero (show Int32.toInt 0 ≤ 0 from by decide)]; decide
theorem zMd_zero : zMd (fun _ => 0) (fun _ => 0) (fun _ => 0) (fun _ => 0) (fun _ => 0) := ⟨zMb_zero 0, zMb_zero 1, zMb_zero 2, zMb_zero 3⟩
theorem z_w4 : ∀ j : Nat, (-1) ≤ ((upd (upd (upd (upd (fun _ => 0) (Int32.toNatClampNeg 0) (-1)) (Int32.toNatClampNeg 1) (-1)) (Int32.toNatClampNeg 2) (-1)) (Int32.toNatClampNeg 3) (-1)) j).toInt ∧ ((upd (upd (upd (upd (fun _ => 0) (Int32.toNatClampNeg 0) (-1)) (Int32.toNatClampNeg 1) (-1)) (Int32.toNatClampNeg 2) (-1)) (Int32.toNatClampNeg 3) (-1)) j).toInt ≤ 3 :=
  zi_upd (zi_upd (zi_upd (zi_upd (fun _ => (by decide : (-1) ≤ Int32.toInt 0 ∧ Int32.toInt 0 ≤ 3)) (show Int32.toInt (-1) = -1 from by decide) (by decide)) (show Int32.toInt (-1) = -1 from by decide) (by decide)) (show Int32.toInt (-1) = -1 from by decide) (by decide)) (show Int32.toInt (-1) = -1 from by decide) (by decide)
theorem z_blk0 : ∀ j : Nat, ¬ j % 10 = 0 → (-1) ≤ Int32.toInt 0 ∧ Int32.toInt 0 < ((j % 10 : Nat) : Int) := fun j h => by
  rw [show Int32.toInt 0 = 0 from by decide]; omega
theorem z_par0 : ∀ j : Nat, 0 ≤ Int32.toInt 0 ∧ Int32.toInt 0 ≤ 99 ∧ (j % 2 = 1 → Int32.toInt 0 ≤ 9) := fun j => by
  rw [show Int32.toInt 0 = 0 from by decide]; omega
set_option maxHeartbeats 8000000 in
set_option maxRecDepth 100000 in
/-- the start's cells, named by seven functions -/
theorem zs_names (q_1 q_3 q_4 q_5 q_6 q_7 q_8 q_9 q_10 q_11 q_12 q_14 q_15 q_16 q_17 q_18 q_19 q_20 q_21 q_22 q_23 q_24 q_36 q_37 q_38 q_40 q_41 q_42 q_43 q_44 q_45 q_46 q_47 q_48 q_49 q_75 q_76 q_77 q_78 q_79 q_80 q_81 q_82 q_110 q_111 q_112 q_135 q_136 q_137 q_138 q_139 q_145 q_146 q_147 q_148 q_149 q_150 q_151 q_178 q_179 q_180 q_181 q_182 q_183 q_184 q_185 q_186 q_187 q_188 q_199 q_200 q_201 q_202 q_203 q_204 q_205 q_206 q_207 q_208 q_209 q_220 q_221 q_222 q_223 q_224 q_225 q_226 q_227 q_228 q_229 q_230 q_241 q_243 q_245 q_247 q_249 q_251 q_252 q_253 q_254 q_255 q_256 q_257 q_258 q_259 q_260 q_261 q_262 q_263 q_264 q_265 q_266 q_267 q_268 q_269 q_270 q_271 q_272 q_273 q_274 q_275 q_276 q_277 q_278 q_279 q_280 : Nat) (cA_13 cA_25 cA_26 cA_27 cA_28 cA_29 cA_30 cA_31 cA_32 cA_33 cA_34 cA_35 cA_39 cA_51 cA_52 cA_53 cA_54 cA_103 cA_104 cA_105 cA_106 cA_107 cA_108 cA_109 cA_133 cA_134 cA_140 cA_141 cA_142 cA_143 cA_144 cA_172 cA_173 cA_174 cA_175 cA_176 cA_177 cA_189 cA_190 cA_191 cA_192 cA_193 cA_194 cA_195 cA_196 cA_197 cA_198 cA_210 cA_211 cA_212 cA_213 cA_214 cA_215 cA_216 cA_217 cA_218 cA_219 cA_231 cA_232 cA_233 cA_234 cA_235 cA_236 cA_237 cA_238 cA_239 cA_240 cA_242 cA_244 cA_246 cA_248 cA_281 cA_282 cA_283 cA_284 cA_285 cA_286 cA_287 cA_288 cA_289 cA_290 cA_291 cA_292 cA_293 cA_294 cA_295 cA_296 cA_297 cA_298 cA_299 cA_300 cA_301 cA_302 cA_303 cA_304 cA_305 cA_306 cA_307 cA_308 cA_309 cA_310 : ClassId) : ∃ (ad : Nat → Nat) (cA : Nat → ClassId) (iv : Nat → Int32) (lw : Nat → Int64) (fi : Nat → Nat → Int32) (fl : Nat → Nat → Int64) (fo : Nat → Nat → Option Nat), zFull ad cA iv lw fi fl fo = [(q_1, .inr (9, [.ref q_3, .int 0, .int 0, .int (-1), .ref q_4, .ref q_5, .ref q_6, .ref q_7, .ref q_8, .ref q_9, .ref q_10, .ref q_11, .ref q_12])), (q_249, .inr (10, [.int 0, .ref q_251, .ref q_252, .ref q_253, .ref q_254, .ref q_255, .int 0, .int 0, .int 0, .int 0, .int 0, .long 0, .int 0, .int 0, .int 0, .int (-1), .ref q_256, .ref q_257, .ref q_258, .ref q_259, .ref q_260, .ref q_261, .ref q_262, .ref q_263, .ref q_264, .ref q_265, .ref q_266, .ref q_267, .ref q_268, .ref q_269, .int 0, .int (-1), .int 0, .int 0, .ref q_270, .ref q_271, .ref q_272, .ref q_273, .ref q_274, .ref q_275, .ref q_276, .ref q_277, .ref q_278, .int (-1), .ref q_279, .ref q_280, .int 0, .long 0, .int 0, .int 0, .int 0, .int 0, .long 0])), (q_251, .inl (cA_281, 4, .inl (upd (upd (upd (upd (fun _ => 0) (Int32.toNatClampNeg 0) (-1)) (Int32.toNatClampNeg 1) (-1)) (Int32.toNatClampNeg 2) (-1)) (Int32.toNatClampNeg 3) (-1)))), (q_252, .inl (cA_282, 4, .inl (fun _ => 0))), (q_253, .inl (cA_283, 240, .inr (.inl (fun _ => 0)))), (q_254, .inl (cA_284, 60, .inr (.inl (fun _ => 0)))), (q_255, .inl (cA_285, 1600, .inl (fun _ => 0))), (q_256, .inl (cA_286, 5, .inl (fun _ => 0))), (q_257, .inl (cA_287, 5, .inl (fun _ => 0))), (q_258, .inl (cA_288, 5, .inl (fun _ => 0))), (q_259, .inl (cA_289, 50, .inl (fun _ => 0))), (q_260, .inl (cA_290, 5, .inl (fun _ => 0))), (q_261, .inl (cA_291, 160, .inl (fun _ => 0))), (q_262, .inl (cA_292, 5, .inl (fun _ => 0))), (q_263, .inl (cA_293, 2400, .inl (fun _ => 0))), (q_264, .inl (cA_294, 100, .inl (fun _ => 0))), (q_265, .inl (cA_295, 10, .inl (fun _ => 0))), (q_266, .inl (cA_296, 10, .inl (fun _ => 0))), (q_267, .inl (cA_297, 10, .inl (fun _ => 0))), (q_268, .inl (cA_298, 50, .inl (fun _ => 0))), (q_269, .inl (cA_299, 3, .inl (fun _ => 0))), (q_270, .inl (cA_300, 480, .inl (fun _ => 0))), (q_271, .inl (cA_301, 49, .inl (fun _ => 0))), (q_272, .inl (cA_302, 490, .inl (fun _ => 0))), (q_273, .inl (cA_303, 10, .inr (.inl (fun _ => 0)))), (q_274, .inl (cA_304, 10, .inr (.inl (fun _ => 0)))), (q_275, .inl (cA_305, 100, .inl (fun _ => 0))), (q_276, .inl (cA_306, 100, .inl (fun _ => 0))), (q_277, .inl (cA_307, 1000, .inl (fun _ => 0))), (q_278, .inl (cA_308, 1000, .inl (fun _ => 0))), (q_279, .inl (cA_309, 39690, .inr (.inl (fun _ => 0)))), (q_280, .inl (cA_310, 10, .inl (fun _ => 0))), (q_3, .inl (cA_13, 1600, .inl (fun _ => 0))), (q_5, .inl (cA_35, 3, .inr (.inr (.inr (.inr (va_up (va_up (va_up (fun _ => none) (Int32.toNatClampNeg 0) (some q_36)) (Int32.toNatClampNeg 1) (some q_37)) (Int32.toNatClampNeg 2) (some q_38))))))), (q_6, .inl (cA_39, 4, .inr (.inr (.inr (.inr (va_up (va_up (va_up (va_up (fun _ => none) (Int32.toNatClampNeg 0) (some q_40)) (Int32.toNatClampNeg 1) (some q_41)) (Int32.toNatClampNeg 2) (some q_42)) (Int32.toNatClampNeg 3) (some q_43))))))), (q_7, .inr (5, [.int 0, .int 0, .ref q_44, .ref q_45, .ref q_46, .ref q_47, .ref q_48, .int 0, .int 0, .ref q_49, .int 0, .int 0, .int 0])), (q_45, .inl (cA_51, 1601, .inl (fun _ => 0))), (q_46, .inl (cA_52, 1601, .inl (fun _ => 0))), (q_47, .inl (cA_53, 1601, .inl (fun _ => 0))), (q_48, .inl (cA_54, 1601, .inl (fun _ => 0))), (q_8, .inr (8, [.int 0, .int 0, .int 0, .ref q_75, .ref q_76, .ref q_77, .ref q_78, .ref q_79, .ref q_80, .ref q_81, .ref q_82])), (q_76, .inl (cA_103, 48, .inl (fun _ => 0))), (q_77, .inl (cA_104, 48, .inl (fun _ => 0))), (q_78, .inl (cA_105, 10, .inl (fun _ => 0))), (q_79, .inl (cA_106, 10, .inl (fun _ => 0))), (q_80, .inl (cA_107, 10, .inl (fun _ => 0))), (q_81, .inl (cA_108, 10, .inr (.inl (fun _ => 0)))), (q_82, .inl (cA_109, 10, .inr (.inl (fun _ => 0)))), (q_9, .inr (2, [.ref q_110, .int 0, .ref q_111, .ref q_112])), (q_111, .inl (cA_133, 160, .inr (.inl (fun _ => 0)))), (q_112, .inl (cA_134, 160, .inr (.inl (fun _ => 0)))), (q_10, .inr (4, [.ref q_135, .ref q_136, .ref q_137, .ref q_138, .ref q_139])), (q_135, .inl (cA_140, 10, .inl (fun _ => 0))), (q_136, .inl (cA_141, 10, .inl (fun _ => 0))), (q_137, .inl (cA_142, 100, .inl (fun _ => 0))), (q_138, .inl (cA_143, 100, .inl (fun _ => 0))), (q_139, .inl (cA_144, 100, .inl (fun _ => 0))), (q_11, .inr (0, [.ref q_145, .int 0, .int 0, .int 0, .int 0, .ref q_146, .ref q_147, .int 0, .int 0, .ref q_148, .int 0, .ref q_149, .ref q_150, .ref q_151, .int 0, .int 0, .int 0])), (q_146, .inl (cA_172, 4, .inl (fun _ => 0))), (q_147, .inl (cA_173, 10, .inl (fun _ => 0))), (q_148, .inl (cA_174, 38880, .inl (fun _ => 0))), (q_149, .inl (cA_175, 4, .inl (fun _ => 0))), (q_150, .inl (cA_176, 4, .inl (fun _ => 0))), (q_151, .inl (cA_177, 4, .inl (fun _ => 0))), (q_12, .inr (1, [.int 0, .int 0, .int 0, .int 0])), (q_4, .inr (3, [.int 0, .ref q_14, .int 0, .int 0, .int 0, .int 0])), (q_36, .inr (3, [.int 0, .ref q_178, .int 0, .int 0, .int 0, .int 0])), (q_37, .inr (3, [.int 0, .ref q_199, .int 0, .int 0, .int 0, .int 0])), (q_38, .inr (3, [.int 0, .ref q_220, .int 0, .int 0, .int 0, .int 0])), (q_40, .inr (6, [.int (-1), .int 0, .ref q_241])), (q_241, .inl (cA_242, 60, .inr (.inl (fun _ => 0)))), (q_41, .inr (6, [.int (-1), .int 0, .ref q_243])), (q_243, .inl (cA_244, 60, .inr (.inl (fun _ => 0)))), (q_42, .inr (6, [.int (-1), .int 0, .ref q_245])), (q_245, .inl (cA_246, 60, .inr (.inl (fun _ => 0)))), (q_43, .inr (6, [.int (-1), .int 0, .ref q_247])), (q_247, .inl (cA_248, 60, .inr (.inl (fun _ => 0)))), (q_14, .inr (7, [.int 0, .int 0, .int 0, .int 0, .int 0, .int 0, .int 0, .int 0, .ref q_15, .ref q_16, .ref q_17, .ref q_18, .ref q_19, .ref q_20, .ref q_21, .ref q_22, .ref q_23, .ref q_24])), (q_15, .inl (cA_25, 10, .inl (fun _ => 0))), (q_16, .inl (cA_26, 10, .inl (fun _ => 0))), (q_17, .inl (cA_27, 10, .inl (fun _ => 0))), (q_18, .inl (cA_28, 100, .inl (fun _ => 0))), (q_19, .inl (cA_29, 10, .inl (fun _ => 0))), (q_20, .inl (cA_30, 16, .inl (fun _ => 0))), (q_21, .inl (cA_31, 16, .inl (fun _ => 0))), (q_22, .inl (cA_32, 480, .inl (fun _ => 0))), (q_23, .inl (cA_33, 10, .inl (fun _ => 0))), (q_24, .inl (cA_34, 10, .inl (fun _ => 0))), (q_178, .inr (7, [.int 0, .int 0, .int 0, .int 0, .int 0, .int 0, .int 0, .int 0, .ref q_179, .ref q_180, .ref q_181, .ref q_182, .ref q_183, .ref q_184, .ref q_185, .ref q_186, .ref q_187, .ref q_188])), (q_179, .inl (cA_189, 10, .inl (fun _ => 0))), (q_180, .inl (cA_190, 10, .inl (fun _ => 0))), (q_181, .inl (cA_191, 10, .inl (fun _ => 0))), (q_182, .inl (cA_192, 100, .inl (fun _ => 0))), (q_183, .inl (cA_193, 10, .inl (fun _ => 0))), (q_184, .inl (cA_194, 16, .inl (fun _ => 0))), (q_185, .inl (cA_195, 16, .inl (fun _ => 0))), (q_186, .inl (cA_196, 480, .inl (fun _ => 0))), (q_187, .inl (cA_197, 10, .inl (fun _ => 0))), (q_188, .inl (cA_198, 10, .inl (fun _ => 0))), (q_199, .inr (7, [.int 0, .int 0, .int 0, .int 0, .int 0, .int 0, .int 0, .int 0, .ref q_200, .ref q_201, .ref q_202, .ref q_203, .ref q_204, .ref q_205, .ref q_206, .ref q_207, .ref q_208, .ref q_209])), (q_200, .inl (cA_210, 10, .inl (fun _ => 0))), (q_201, .inl (cA_211, 10, .inl (fun _ => 0))), (q_202, .inl (cA_212, 10, .inl (fun _ => 0))), (q_203, .inl (cA_213, 100, .inl (fun _ => 0))), (q_204, .inl (cA_214, 10, .inl (fun _ => 0))), (q_205, .inl (cA_215, 16, .inl (fun _ => 0))), (q_206, .inl (cA_216, 16, .inl (fun _ => 0))), (q_207, .inl (cA_217, 480, .inl (fun _ => 0))), (q_208, .inl (cA_218, 10, .inl (fun _ => 0))), (q_209, .inl (cA_219, 10, .inl (fun _ => 0))), (q_220, .inr (7, [.int 0, .int 0, .int 0, .int 0, .int 0, .int 0, .int 0, .int 0, .ref q_221, .ref q_222, .ref q_223, .ref q_224, .ref q_225, .ref q_226, .ref q_227, .ref q_228, .ref q_229, .ref q_230])), (q_221, .inl (cA_231, 10, .inl (fun _ => 0))), (q_222, .inl (cA_232, 10, .inl (fun _ => 0))), (q_223, .inl (cA_233, 10, .inl (fun _ => 0))), (q_224, .inl (cA_234, 100, .inl (fun _ => 0))), (q_225, .inl (cA_235, 10, .inl (fun _ => 0))), (q_226, .inl (cA_236, 16, .inl (fun _ => 0))), (q_227, .inl (cA_237, 16, .inl (fun _ => 0))), (q_228, .inl (cA_238, 480, .inl (fun _ => 0))), (q_229, .inl (cA_239, 10, .inl (fun _ => 0))), (q_230, .inl (cA_240, 10, .inl (fun _ => 0)))] ∧ zTys cA = [(cA_281, .int), (cA_282, .int), (cA_283, .long), (cA_284, .long), (cA_285, .byte), (cA_286, .int), (cA_287, .int), (cA_288, .int), (cA_289, .int), (cA_290, .int), (cA_291, .int), (cA_292, .int), (cA_293, .int), (cA_294, .int), (cA_295, .int), (cA_296, .boolean), (cA_297, .int), (cA_298, .int), (cA_299, .boolean), (cA_300, .int), (cA_301, .int), (cA_302, .int), (cA_303, .long), (cA_304, .long), (cA_305, .boolean), (cA_306, .boolean), (cA_307, .boolean), (cA_308, .boolean), (cA_309, .long), (cA_310, .int), (cA_13, .byte), (cA_35, .object RX3), (cA_39, .object RX6), (cA_51, .int), (cA_52, .int), (cA_53, .int), (cA_54, .int), (cA_103, .int), (cA_104, .int), (cA_105, .int), (cA_106, .int), (cA_107, .int), (cA_108, .long), (cA_109, .long), (cA_133, .long), (cA_134, .long), (cA_140, .int), (cA_141, .int), (cA_142, .int), (cA_143, .int), (cA_144, .int), (cA_172, .int), (cA_173, .int), (cA_174, .int), (cA_175, .int), (cA_176, .int), (cA_177, .int), (cA_242, .long), (cA_244, .long), (cA_246, .long), (cA_248, .long), (cA_25, .int), (cA_26, .int), (cA_27, .int), (cA_28, .int), (cA_29, .int), (cA_30, .int), (cA_31, .int), (cA_32, .int), (cA_33, .int), (cA_34, .int), (cA_189, .int), (cA_190, .int), (cA_191, .int), (cA_192, .int), (cA_193, .int), (cA_194, .int), (cA_195, .int), (cA_196, .int), (cA_197, .int), (cA_198, .int), (cA_210, .int), (cA_211, .int), (cA_212, .int), (cA_213, .int), (cA_214, .int), (cA_215, .int), (cA_216, .int), (cA_217, .int), (cA_218, .int), (cA_219, .int), (cA_231, .int), (cA_232, .int), (cA_233, .int), (cA_234, .int), (cA_235, .int), (cA_236, .int), (cA_237, .int), (cA_238, .int), (cA_239, .int), (cA_240, .int)] ∧ zFacts ad cA iv lw fi fl fo ∧ ad 0 = q_1 ∧ ad 1 = q_249 := by
  obtain ⟨ad, h9ad⟩ : ∃ f : Nat → Nat, f = (fun k => (cond (Nat.ble k 63) (cond (Nat.ble k 31) (cond (Nat.ble k 15) (cond (Nat.ble k 7) (cond (Nat.ble k 3) (cond (Nat.ble k 1) (cond (Nat.ble k 0) q_1 q_249) (cond (Nat.ble k 2) q_251 q_252)) (cond (Nat.ble k 5) (cond (Nat.ble k 4) q_253 q_254) (cond (Nat.ble k 6) q_255 q_256))) (cond (Nat.ble k 11) (cond (Nat.ble k 9) (cond (Nat.ble k 8) q_257 q_258) (cond (Nat.ble k 10) q_259 q_260)) (cond (Nat.ble k 13) (cond (Nat.ble k 12) q_261 q_262) (cond (Nat.ble k 14) q_263 q_264)))) (cond (Nat.ble k 23) (cond (Nat.ble k 19) (cond (Nat.ble k 17) (cond (Nat.ble k 16) q_265 q_266) (cond (Nat.ble k 18) q_267 q_268)) (cond (Nat.ble k 21) (cond (Nat.ble k 20) q_269 q_270) (cond (Nat.ble k 22) q_271 q_272))) (cond (Nat.ble k 27) (cond (Nat.ble k 25) (cond (Nat.ble k 24) q_273 q_274) (cond (Nat.ble k 26) q_275 q_276)) (cond (Nat.ble k 29) (cond (Nat.ble k 28) q_277 q_278) (cond (Nat.ble k 30) q_279 q_280))))) (cond (Nat.ble k 47) (cond (Nat.ble k 39) (cond (Nat.ble k 35) (cond (Nat.ble k 33) (cond (Nat.ble k 32) q_3 q_5) (cond (Nat.ble k 34) q_6 q_7)) (cond (Nat.ble k 37) (cond (Nat.ble k 36) q_45 q_46) (cond (Nat.ble k 38) q_47 q_48))) (cond (Nat.ble k 43) (cond (Nat.ble k 41) (cond (Nat.ble k 40) q_8 q_76) (cond (Nat.ble k 42) q_77 q_78)) (cond (Nat.ble k 45) (cond (Nat.ble k 44) q_79 q_80) (cond (Nat.ble k 46) q_81 q_82)))) (cond (Nat.ble k 55) (cond (Nat.ble k 51) (cond (Nat.ble k 49) (cond (Nat.ble k 48) q_9 q_111) (cond (Nat.ble k 50) q_112 q_10)) (cond (Nat.ble k 53) (cond (Nat.ble k 52) q_135 q_136) (cond (Nat.ble k 54) q_137 q_138))) (cond (Nat.ble k 59) (cond (Nat.ble k 57) (cond (Nat.ble k 56) q_139 q_11) (cond (Nat.ble k 58) q_146 q_147)) (cond (Nat.ble k 61) (cond (Nat.ble k 60) q_148 q_149) (cond (Nat.ble k 62) q_150 q_151)))))) (cond (Nat.ble k 95) (cond (Nat.ble k 79) (cond (Nat.ble k 71) (cond (Nat.ble k 67) (cond (Nat.ble k 65) (cond (Nat.ble k 64) q_12 q_4) (cond (Nat.ble k 66) q_36 q_37)) (cond (Nat.ble k 69) (cond (Nat.ble k 68) q_38 q_40) (cond (Nat.ble k 70) q_241 q_41))) (cond (Nat.ble k 75) (cond (Nat.ble k 73) (cond (Nat.ble k 72) q_243 q_42) (cond (Nat.ble k 74) q_245 q_43)) (cond (Nat.ble k 77) (cond (Nat.ble k 76) q_247 q_14) (cond (Nat.ble k 78) q_15 q_16)))) (cond (Nat.ble k 87) (cond (Nat.ble k 83) (cond (Nat.ble k 81) (cond (Nat.ble k 80) q_17 q_18) (cond (Nat.ble k 82) q_19 q_20)) (cond (Nat.ble k 85) (cond (Nat.ble k 84) q_21 q_22) (cond (Nat.ble k 86) q_23 q_24))) (cond (Nat.ble k 91) (cond (Nat.ble k 89) (cond (Nat.ble k 88) q_178 q_179) (cond (Nat.ble k 90) q_180 q_181)) (cond (Nat.ble k 93) (cond (Nat.ble k 92) q_182 q_183) (cond (Nat.ble k 94) q_184 q_185))))) (cond (Nat.ble k 111) (cond (Nat.ble k 103) (cond (Nat.ble k 99) (cond (Nat.ble k 97) (cond (Nat.ble k 96) q_186 q_187) (cond (Nat.ble k 98) q_188 q_199)) (cond (Nat.ble k 101) (cond (Nat.ble k 100) q_200 q_201) (cond (Nat.ble k 102) q_202 q_203))) (cond (Nat.ble k 107) (cond (Nat.ble k 105) (cond (Nat.ble k 104) q_204 q_205) (cond (Nat.ble k 106) q_206 q_207)) (cond (Nat.ble k 109) (cond (Nat.ble k 108) q_208 q_209) (cond (Nat.ble k 110) q_220 q_221)))) (cond (Nat.ble k 119) (cond (Nat.ble k 115) (cond (Nat.ble k 113) (cond (Nat.ble k 112) q_222 q_223) (cond (Nat.ble k 114) q_224 q_225)) (cond (Nat.ble k 117) (cond (Nat.ble k 116) q_226 q_227) (cond (Nat.ble k 118) q_228 q_229))) (cond (Nat.ble k 123) (cond (Nat.ble k 121) (cond (Nat.ble k 120) q_230 q_44) (cond (Nat.ble k 122) q_49 q_75)) (cond (Nat.ble k 125) (cond (Nat.ble k 124) q_110 q_145) (cond (Nat.ble k 126) q_178 (cond (Nat.ble k 127) q_199 q_220))))))))) := ⟨_, rfl⟩
  obtain ⟨cA, h9cA⟩ : ∃ f : Nat → ClassId, f = (fun k => (cond (Nat.ble k 59) (cond (Nat.ble k 29) (cond (Nat.ble k 14) (cond (Nat.ble k 6) (cond (Nat.ble k 2) (cond (Nat.ble k 0) cA_281 (cond (Nat.ble k 1) cA_281 cA_281)) (cond (Nat.ble k 4) (cond (Nat.ble k 3) cA_282 cA_283) (cond (Nat.ble k 5) cA_284 cA_285))) (cond (Nat.ble k 10) (cond (Nat.ble k 8) (cond (Nat.ble k 7) cA_286 cA_287) (cond (Nat.ble k 9) cA_288 cA_289)) (cond (Nat.ble k 12) (cond (Nat.ble k 11) cA_290 cA_291) (cond (Nat.ble k 13) cA_292 cA_293)))) (cond (Nat.ble k 21) (cond (Nat.ble k 17) (cond (Nat.ble k 15) cA_294 (cond (Nat.ble k 16) cA_295 cA_296)) (cond (Nat.ble k 19) (cond (Nat.ble k 18) cA_297 cA_298) (cond (Nat.ble k 20) cA_299 cA_300))) (cond (Nat.ble k 25) (cond (Nat.ble k 23) (cond (Nat.ble k 22) cA_301 cA_302) (cond (Nat.ble k 24) cA_303 cA_304)) (cond (Nat.ble k 27) (cond (Nat.ble k 26) cA_305 cA_306) (cond (Nat.ble k 28) cA_307 cA_308))))) (cond (Nat.ble k 44) (cond (Nat.ble k 36) (cond (Nat.ble k 32) (cond (Nat.ble k 30) cA_309 (cond (Nat.ble k 31) cA_310 cA_13)) (cond (Nat.ble k 34) (cond (Nat.ble k 33) cA_35 cA_39) (cond (Nat.ble k 35) cA_281 cA_51))) (cond (Nat.ble k 40) (cond (Nat.ble k 38) (cond (Nat.ble k 37) cA_52 cA_53) (cond (Nat.ble k 39) cA_54 cA_281)) (cond (Nat.ble k 42) (cond (Nat.ble k 41) cA_103 cA_104) (cond (Nat.ble k 43) cA_105 cA_106)))) (cond (Nat.ble k 51) (cond (Nat.ble k 47) (cond (Nat.ble k 45) cA_107 (cond (Nat.ble k 46) cA_108 cA_109)) (cond (Nat.ble k 49) (cond (Nat.ble k 48) cA_281 cA_133) (cond (Nat.ble k 50) cA_134 cA_281))) (cond (Nat.ble k 55) (cond (Nat.ble k 53) (cond (Nat.ble k 52) cA_140 cA_141) (cond (Nat.ble k 54) cA_142 cA_143)) (cond (Nat.ble k 57) (cond (Nat.ble k 56) cA_144 cA_281) (cond (Nat.ble k 58) cA_172 cA_173)))))) (cond (Nat.ble k 89) (cond (Nat.ble k 74) (cond (Nat.ble k 66) (cond (Nat.ble k 62) (cond (Nat.ble k 60) cA_174 (cond (Nat.ble k 61) cA_175 cA_176)) (cond (Nat.ble k 64) (cond (Nat.ble k 63) cA_177 cA_281) (cond (Nat.ble k 65) cA_281 cA_281))) (cond (Nat.ble k 70) (cond (Nat.ble k 68) (cond (Nat.ble k 67) cA_281 cA_281) (cond (Nat.ble k 69) cA_281 cA_242)) (cond (Nat.ble k 72) (cond (Nat.ble k 71) cA_281 cA_244) (cond (Nat.ble k 73) cA_281 cA_246)))) (cond (Nat.ble k 81) (cond (Nat.ble k 77) (cond (Nat.ble k 75) cA_281 (cond (Nat.ble k 76) cA_248 cA_281)) (cond (Nat.ble k 79) (cond (Nat.ble k 78) cA_25 cA_26) (cond (Nat.ble k 80) cA_27 cA_28))) (cond (Nat.ble k 85) (cond (Nat.ble k 83) (cond (Nat.ble k 82) cA_29 cA_30) (cond (Nat.ble k 84) cA_31 cA_32)) (cond (Nat.ble k 87) (cond (Nat.ble k 86) cA_33 cA_34) (cond (Nat.ble k 88) cA_281 cA_189))))) (cond (Nat.ble k 104) (cond (Nat.ble k 96) (cond (Nat.ble k 92) (cond (Nat.ble k 90) cA_190 (cond (Nat.ble k 91) cA_191 cA_192)) (cond (Nat.ble k 94) (cond (Nat.ble k 93) cA_193 cA_194) (cond (Nat.ble k 95) cA_195 cA_196))) (cond (Nat.ble k 100) (cond (Nat.ble k 98) (cond (Nat.ble k 97) cA_197 cA_198) (cond (Nat.ble k 99) cA_281 cA_210)) (cond (Nat.ble k 102) (cond (Nat.ble k 101) cA_211 cA_212) (cond (Nat.ble k 103) cA_213 cA_214)))) (cond (Nat.ble k 112) (cond (Nat.ble k 108) (cond (Nat.ble k 106) (cond (Nat.ble k 105) cA_215 cA_216) (cond (Nat.ble k 107) cA_217 cA_218)) (cond (Nat.ble k 110) (cond (Nat.ble k 109) cA_219 cA_281) (cond (Nat.ble k 111) cA_231 cA_232))) (cond (Nat.ble k 116) (cond (Nat.ble k 114) (cond (Nat.ble k 113) cA_233 cA_234) (cond (Nat.ble k 115) cA_235 cA_236)) (cond (Nat.ble k 118) (cond (Nat.ble k 117) cA_237 cA_238) (cond (Nat.ble k 119) cA_239 cA_240)))))))) := ⟨_, rfl⟩
  obtain ⟨iv, h9iv⟩ : ∃ f : Nat → Int32, f = (fun k => (cond (Nat.beq k 74) (-1) (cond (Nat.beq k 72) (-1) (cond (Nat.beq k 70) (-1) (cond (Nat.beq k 68) (-1) (cond (Nat.beq k 17) (-1) (cond (Nat.beq k 14) (-1) (cond (Nat.beq k 12) (-1) (cond (Nat.beq k 2) (-1) 0))))))))) := ⟨_, rfl⟩
  obtain ⟨lw, h9lw⟩ : ∃ f : Nat → Int64, f = (fun k => 0) := ⟨_, rfl⟩
  obtain ⟨fi, h9fi⟩ : ∃ f : Nat → Nat → Int32, f = (fun k => (cond (Nat.beq k 2) (upd (upd (upd (upd (fun _ => 0) (Int32.toNatClampNeg 0) (-1)) (Int32.toNatClampNeg 1) (-1)) (Int32.toNatClampNeg 2) (-1)) (Int32.toNatClampNeg 3) (-1)) (fun _ => 0))) := ⟨_, rfl⟩
  obtain ⟨fl, h9fl⟩ : ∃ f : Nat → Nat → Int64, f = (fun k => (fun _ => 0)) := ⟨_, rfl⟩
  obtain ⟨fo, h9fo⟩ : ∃ f : Nat → Nat → Option Nat, f = (fun k => (cond (Nat.beq k 34) (va_up (va_up (va_up (va_up (fun _ => none) (Int32.toNatClampNeg 0) (some q_40)) (Int32.toNatClampNeg 1) (some q_41)) (Int32.toNatClampNeg 2) (some q_42)) (Int32.toNatClampNeg 3) (some q_43)) (va_up (va_up (va_up (fun _ => none) (Int32.toNatClampNeg 0) (some q_36)) (Int32.toNatClampNeg 1) (some q_37)) (Int32.toNatClampNeg 2) (some q_38)))) := ⟨_, rfl⟩
  have e9a_0 : ad 0 = q_1 := congrFun h9ad 0
  have e9a_1 : ad 1 = q_249 := congrFun h9ad 1
  have e9a_2 : ad 2 = q_251 := congrFun h9ad 2
  have e9a_3 : ad 3 = q_252 := congrFun h9ad 3
  have e9a_4 : ad 4 = q_253 := congrFun h9ad 4
  have e9a_5 : ad 5 = q_254 := congrFun h9ad 5
  have e9a_6 : ad 6 = q_255 := congrFun h9ad 6
  have e9a_7 : ad 7 = q_256 := congrFun h9ad 7
  have e9a_8 : ad 8 = q_257 := congrFun h9ad 8
  have e9a_9 : ad 9 = q_258 := congrFun h9ad 9
  have e9a_10 : ad 10 = q_259 := congrFun h9ad 10
  have e9a_11 : ad 11 = q_260 := congrFun h9ad 11
  have e9a_12 : ad 12 = q_261 := congrFun h9ad 12
  have e9a_13 : ad 13 = q_262 := congrFun h9ad 13
  have e9a_14 : ad 14 = q_263 := congrFun h9ad 14
  have e9a_15 : ad 15 = q_264 := congrFun h9ad 15
  have e9a_16 : ad 16 = q_265 := congrFun h9ad 16
  have e9a_17 : ad 17 = q_266 := congrFun h9ad 17
  have e9a_18 : ad 18 = q_267 := congrFun h9ad 18
  have e9a_19 : ad 19 = q_268 := congrFun h9ad 19
  have e9a_20 : ad 20 = q_269 := congrFun h9ad 20
  have e9a_21 : ad 21 = q_270 := congrFun h9ad 21
  have e9a_22 : ad 22 = q_271 := congrFun h9ad 22
  have e9a_23 : ad 23 = q_272 := congrFun h9ad 23
  have e9a_24 : ad 24 = q_273 := congrFun h9ad 24
  have e9a_25 : ad 25 = q_274 := congrFun h9ad 25
  have e9a_26 : ad 26 = q_275 := congrFun h9ad 26
  have e9a_27 : ad 27 = q_276 := congrFun h9ad 27
  have e9a_28 : ad 28 = q_277 := congrFun h9ad 28
  have e9a_29 : ad 29 = q_278 := congrFun h9ad 29
  have e9a_30 : ad 30 = q_279 := congrFun h9ad 30
  have e9a_31 : ad 31 = q_280 := congrFun h9ad 31
  have e9a_32 : ad 32 = q_3 := congrFun h9ad 32
  have e9a_33 : ad 33 = q_5 := congrFun h9ad 33
  have e9a_34 : ad 34 = q_6 := congrFun h9ad 34
  have e9a_35 : ad 35 = q_7 := congrFun h9ad 35
  have e9a_36 : ad 36 = q_45 := congrFun h9ad 36
  have e9a_37 : ad 37 = q_46 := congrFun h9ad 37
  have e9a_38 : ad 38 = q_47 := congrFun h9ad 38
  have e9a_39 : ad 39 = q_48 := congrFun h9ad 39
  have e9a_40 : ad 40 = q_8 := congrFun h9ad 40
  have e9a_41 : ad 41 = q_76 := congrFun h9ad 41
  have e9a_42 : ad 42 = q_77 := congrFun h9ad 42
  have e9a_43 : ad 43 = q_78 := congrFun h9ad 43
  have e9a_44 : ad 44 = q_79 := congrFun h9ad 44
  have e9a_45 : ad 45 = q_80 := congrFun h9ad 45
  have e9a_46 : ad 46 = q_81 := congrFun h9ad 46
  have e9a_47 : ad 47 = q_82 := congrFun h9ad 47
  have e9a_48 : ad 48 = q_9 := congrFun h9ad 48
  have e9a_49 : ad 49 = q_111 := congrFun h9ad 49
  have e9a_50 : ad 50 = q_112 := congrFun h9ad 50
  have e9a_51 : ad 51 = q_10 := congrFun h9ad 51
  have e9a_52 : ad 52 = q_135 := congrFun h9ad 52
  have e9a_53 : ad 53 = q_136 := congrFun h9ad 53
  have e9a_54 : ad 54 = q_137 := congrFun h9ad 54
  have e9a_55 : ad 55 = q_138 := congrFun h9ad 55
  have e9a_56 : ad 56 = q_139 := congrFun h9ad 56
  have e9a_57 : ad 57 = q_11 := congrFun h9ad 57
  have e9a_58 : ad 58 = q_146 := congrFun h9ad 58
  have e9a_59 : ad 59 = q_147 := congrFun h9ad 59
  have e9a_60 : ad 60 = q_148 := congrFun h9ad 60
  have e9a_61 : ad 61 = q_149 := congrFun h9ad 61
  have e9a_62 : ad 62 = q_150 := congrFun h9ad 62
  have e9a_63 : ad 63 = q_151 := congrFun h9ad 63
  have e9a_64 : ad 64 = q_12 := congrFun h9ad 64
  have e9a_65 : ad 65 = q_4 := congrFun h9ad 65
  have e9a_66 : ad 66 = q_36 := congrFun h9ad 66
  have e9a_67 : ad 67 = q_37 := congrFun h9ad 67
  have e9a_68 : ad 68 = q_38 := congrFun h9ad 68
  have e9a_69 : ad 69 = q_40 := congrFun h9ad 69
  have e9a_70 : ad 70 = q_241 := congrFun h9ad 70
  have e9a_71 : ad 71 = q_41 := congrFun h9ad 71
  have e9a_72 : ad 72 = q_243 := congrFun h9ad 72
  have e9a_73 : ad 73 = q_42 := congrFun h9ad 73
  have e9a_74 : ad 74 = q_245 := congrFun h9ad 74
  have e9a_75 : ad 75 = q_43 := congrFun h9ad 75
  have e9a_76 : ad 76 = q_247 := congrFun h9ad 76
  have e9a_77 : ad 77 = q_14 := congrFun h9ad 77
  have e9a_78 : ad 78 = q_15 := congrFun h9ad 78
  have e9a_79 : ad 79 = q_16 := congrFun h9ad 79
  have e9a_80 : ad 80 = q_17 := congrFun h9ad 80
  have e9a_81 : ad 81 = q_18 := congrFun h9ad 81
  have e9a_82 : ad 82 = q_19 := congrFun h9ad 82
  have e9a_83 : ad 83 = q_20 := congrFun h9ad 83
  have e9a_84 : ad 84 = q_21 := congrFun h9ad 84
  have e9a_85 : ad 85 = q_22 := congrFun h9ad 85
  have e9a_86 : ad 86 = q_23 := congrFun h9ad 86
  have e9a_87 : ad 87 = q_24 := congrFun h9ad 87
  have e9a_88 : ad 88 = q_178 := congrFun h9ad 88
  have e9a_89 : ad 89 = q_179 := congrFun h9ad 89
  have e9a_90 : ad 90 = q_180 := congrFun h9ad 90
  have e9a_91 : ad 91 = q_181 := congrFun h9ad 91
  have e9a_92 : ad 92 = q_182 := congrFun h9ad 92
  have e9a_93 : ad 93 = q_183 := congrFun h9ad 93
  have e9a_94 : ad 94 = q_184 := congrFun h9ad 94
  have e9a_95 : ad 95 = q_185 := congrFun h9ad 95
  have e9a_96 : ad 96 = q_186 := congrFun h9ad 96
  have e9a_97 : ad 97 = q_187 := congrFun h9ad 97
  have e9a_98 : ad 98 = q_188 := congrFun h9ad 98
  have e9a_99 : ad 99 = q_199 := congrFun h9ad 99
  have e9a_100 : ad 100 = q_200 := congrFun h9ad 100
  have e9a_101 : ad 101 = q_201 := congrFun h9ad 101
  have e9a_102 : ad 102 = q_202 := congrFun h9ad 102
  have e9a_103 : ad 103 = q_203 := congrFun h9ad 103
  have e9a_104 : ad 104 = q_204 := congrFun h9ad 104
  have e9a_105 : ad 105 = q_205 := congrFun h9ad 105
  have e9a_106 : ad 106 = q_206 := congrFun h9ad 106
  have e9a_107 : ad 107 = q_207 := congrFun h9ad 107
  have e9a_108 : ad 108 = q_208 := congrFun h9ad 108
  have e9a_109 : ad 109 = q_209 := congrFun h9ad 109
  have e9a_110 : ad 110 = q_220 := congrFun h9ad 110
  have e9a_111 : ad 111 = q_221 := congrFun h9ad 111
  have e9a_112 : ad 112 = q_222 := congrFun h9ad 112
  have e9a_113 : ad 113 = q_223 := congrFun h9ad 113
  have e9a_114 : ad 114 = q_224 := congrFun h9ad 114
  have e9a_115 : ad 115 = q_225 := congrFun h9ad 115
  have e9a_116 : ad 116 = q_226 := congrFun h9ad 116
  have e9a_117 : ad 117 = q_227 := congrFun h9ad 117
  have e9a_118 : ad 118 = q_228 := congrFun h9ad 118
  have e9a_119 : ad 119 = q_229 := congrFun h9ad 119
  have e9a_120 : ad 120 = q_230 := congrFun h9ad 120
  have e9a_121 : ad 121 = q_44 := congrFun h9ad 121
  have e9a_122 : ad 122 = q_49 := congrFun h9ad 122
  have e9a_123 : ad 123 = q_75 := congrFun h9ad 123
  have e9a_124 : ad 124 = q_110 := congrFun h9ad 124
  have e9a_125 : ad 125 = q_145 := congrFun h9ad 125
  have e9a_126 : ad 126 = q_178 := congrFun h9ad 126
  have e9a_127 : ad 127 = q_199 := congrFun h9ad 127
  have e9a_128 : ad 128 = q_220 := congrFun h9ad 128
  have e9i_0 : iv 0 = 0 := congrFun h9iv 0
  have e9i_1 : iv 1 = 0 := congrFun h9iv 1
  have e9i_2 : iv 2 = (-1) := congrFun h9iv 2
  have e9i_3 : iv 3 = 0 := congrFun h9iv 3
  have e9i_4 : iv 4 = 0 := congrFun h9iv 4
  have e9i_5 : iv 5 = 0 := congrFun h9iv 5
  have e9i_6 : iv 6 = 0 := congrFun h9iv 6
  have e9i_7 : iv 7 = 0 := congrFun h9iv 7
  have e9i_8 : iv 8 = 0 := congrFun h9iv 8
  have e9w_0 : lw 0 = 0 := congrFun h9lw 0
  have e9i_9 : iv 9 = 0 := congrFun h9iv 9
  have e9i_10 : iv 10 = 0 := congrFun h9iv 10
  have e9i_11 : iv 11 = 0 := congrFun h9iv 11
  have e9i_12 : iv 12 = (-1) := congrFun h9iv 12
  have e9i_13 : iv 13 = 0 := congrFun h9iv 13
  have e9i_14 : iv 14 = (-1) := congrFun h9iv 14
  have e9i_15 : iv 15 = 0 := congrFun h9iv 15
  have e9i_16 : iv 16 = 0 := congrFun h9iv 16
  have e9i_17 : iv 17 = (-1) := congrFun h9iv 17
  have e9i_18 : iv 18 = 0 := congrFun h9iv 18
  have e9w_1 : lw 1 = 0 := congrFun h9lw 1
  have e9i_19 : iv 19 = 0 := congrFun h9iv 19
  have e9i_20 : iv 20 = 0 := congrFun h9iv 20
  have e9i_21 : iv 21 = 0 := congrFun h9iv 21
  have e9i_22 : iv 22 = 0 := congrFun h9iv 22
  have e9w_2 : lw 2 = 0 := congrFun h9lw 2
  have e9c_2 : cA 2 = cA_281 := congrFun h9cA 2
  have e9f_2 : fi 2 = (upd (upd (upd (upd (fun _ => 0) (Int32.toNatClampNeg 0) (-1)) (Int32.toNatClampNeg 1) (-1)) (Int32.toNatClampNeg 2) (-1)) (Int32.toNatClampNeg 3) (-1)) := congrFun h9fi 2
  have e9c_3 : cA 3 = cA_282 := congrFun h9cA 3
  have e9f_3 : fi 3 = (fun _ => 0) := congrFun h9fi 3
  have e9c_4 : cA 4 = cA_283 := congrFun h9cA 4
  have e9l_4 : fl 4 = (fun _ => 0) := congrFun h9fl 4
  have e9c_5 : cA 5 = cA_284 := congrFun h9cA 5
  have e9l_5 : fl 5 = (fun _ => 0) := congrFun h9fl 5
  have e9c_6 : cA 6 = cA_285 := congrFun h9cA 6
  have e9f_6 : fi 6 = (fun _ => 0) := congrFun h9fi 6
  have e9c_7 : cA 7 = cA_286 := congrFun h9cA 7
  have e9f_7 : fi 7 = (fun _ => 0) := congrFun h9fi 7
  have e9c_8 : cA 8 = cA_287 := congrFun h9cA 8
  have e9f_8 : fi 8 = (fun _ => 0) := congrFun h9fi 8
  have e9c_9 : cA 9 = cA_288 := congrFun h9cA 9
  have e9f_9 : fi 9 = (fun _ => 0) := congrFun h9fi 9
  have e9c_10 : cA 10 = cA_289 := congrFun h9cA 10
  have e9f_10 : fi 10 = (fun _ => 0) := congrFun h9fi 10
  have e9c_11 : cA 11 = cA_290 := congrFun h9cA 11
  have e9f_11 : fi 11 = (fun _ => 0) := congrFun h9fi 11
  have e9c_12 : cA 12 = cA_291 := congrFun h9cA 12
  have e9f_12 : fi 12 = (fun _ => 0) := congrFun h9fi 12
  have e9c_13 : cA 13 = cA_292 := congrFun h9cA 13
  have e9f_13 : fi 13 = (fun _ => 0) := congrFun h9fi 13
  have e9c_14 : cA 14 = cA_293 := congrFun h9cA 14
  have e9f_14 : fi 14 = (fun _ => 0) := congrFun h9fi 14
  have e9c_15 : cA 15 = cA_294 := congrFun h9cA 15
  have e9f_15 : fi 15 = (fun _ => 0) := congrFun h9fi 15
  have e9c_16 : cA 16 = cA_295 := congrFun h9cA 16
  have e9f_16 : fi 16 = (fun _ => 0) := congrFun h9fi 16
  have e9c_17 : cA 17 = cA_296 := congrFun h9cA 17
  have e9f_17 : fi 17 = (fun _ => 0) := congrFun h9fi 17
  have e9c_18 : cA 18 = cA_297 := congrFun h9cA 18
  have e9f_18 : fi 18 = (fun _ => 0) := congrFun h9fi 18
  have e9c_19 : cA 19 = cA_298 := congrFun h9cA 19
  have e9f_19 : fi 19 = (fun _ => 0) := congrFun h9fi 19
  have e9c_20 : cA 20 = cA_299 := congrFun h9cA 20
  have e9f_20 : fi 20 = (fun _ => 0) := congrFun h9fi 20
  have e9c_21 : cA 21 = cA_300 := congrFun h9cA 21
  have e9f_21 : fi 21 = (fun _ => 0) := congrFun h9fi 21
  have e9c_22 : cA 22 = cA_301 := congrFun h9cA 22
  have e9f_22 : fi 22 = (fun _ => 0) := congrFun h9fi 22
  have e9c_23 : cA 23 = cA_302 := congrFun h9cA 23
  have e9f_23 : fi 23 = (fun _ => 0) := congrFun h9fi 23
  have e9c_24 : cA 24 = cA_303 := congrFun h9cA 24
  have e9l_24 : fl 24 = (fun _ => 0) := congrFun h9fl 24
  have e9c_25 : cA 25 = cA_304 := congrFun h9cA 25
  have e9l_25 : fl 25 = (fun _ => 0) := congrFun h9fl 25
  have e9c_26 : cA 26 = cA_305 := congrFun h9cA 26
  have e9f_26 : fi 26 = (fun _ => 0) := congrFun h9fi 26
  have e9c_27 : cA 27 = cA_306 := congrFun h9cA 27
  have e9f_27 : fi 27 = (fun _ => 0) := congrFun h9fi 27
  have e9c_28 : cA 28 = cA_307 := congrFun h9cA 28
  have e9f_28 : fi 28 = (fun _ => 0) := congrFun h9fi 28
  have e9c_29 : cA 29 = cA_308 := congrFun h9cA 29
  have e9f_29 : fi 29 = (fun _ => 0) := congrFun h9fi 29
  have e9c_30 : cA 30 = cA_309 := congrFun h9cA 30
  have e9l_30 : fl 30 = (fun _ => 0) := congrFun h9fl 30
  have e9c_31 : cA 31 = cA_310 := congrFun h9cA 31
  have e9f_31 : fi 31 = (fun _ => 0) := congrFun h9fi 31
  have e9c_32 : cA 32 = cA_13 := congrFun h9cA 32
  have e9f_32 : fi 32 = (fun _ => 0) := congrFun h9fi 32
  have e9c_33 : cA 33 = cA_35 := congrFun h9cA 33
  have e9o_33 : fo 33 = (va_up (va_up (va_up (fun _ => none) (Int32.toNatClampNeg 0) (some q_36)) (Int32.toNatClampNeg 1) (some q_37)) (Int32.toNatClampNeg 2) (some q_38)) := congrFun h9fo 33
  have e9c_34 : cA 34 = cA_39 := congrFun h9cA 34
  have e9o_34 : fo 34 = (va_up (va_up (va_up (va_up (fun _ => none) (Int32.toNatClampNeg 0) (some q_40)) (Int32.toNatClampNeg 1) (some q_41)) (Int32.toNatClampNeg 2) (some q_42)) (Int32.toNatClampNeg 3) (some q_43)) := congrFun h9fo 34
  have e9i_23 : iv 23 = 0 := congrFun h9iv 23
  have e9i_24 : iv 24 = 0 := congrFun h9iv 24
  have e9i_25 : iv 25 = 0 := congrFun h9iv 25
  have e9i_26 : iv 26 = 0 := congrFun h9iv 26
  have e9i_27 : iv 27 = 0 := congrFun h9iv 27
  have e9i_28 : iv 28 = 0 := congrFun h9iv 28
  have e9i_29 : iv 29 = 0 := congrFun h9iv 29
  have e9c_36 : cA 36 = cA_51 := congrFun h9cA 36
  have e9f_36 : fi 36 = (fun _ => 0) := congrFun h9fi 36
  have e9c_37 : cA 37 = cA_52 := congrFun h9cA 37
  have e9f_37 : fi 37 = (fun _ => 0) := congrFun h9fi 37
  have e9c_38 : cA 38 = cA_53 := congrFun h9cA 38
  have e9f_38 : fi 38 = (fun _ => 0) := congrFun h9fi 38
  have e9c_39 : cA 39 = cA_54 := congrFun h9cA 39
  have e9f_39 : fi 39 = (fun _ => 0) := congrFun h9fi 39
  have e9i_30 : iv 30 = 0 := congrFun h9iv 30
  have e9i_31 : iv 31 = 0 := congrFun h9iv 31
  have e9i_32 : iv 32 = 0 := congrFun h9iv 32
  have e9c_41 : cA 41 = cA_103 := congrFun h9cA 41
  have e9f_41 : fi 41 = (fun _ => 0) := congrFun h9fi 41
  have e9c_42 : cA 42 = cA_104 := congrFun h9cA 42
  have e9f_42 : fi 42 = (fun _ => 0) := congrFun h9fi 42
  have e9c_43 : cA 43 = cA_105 := congrFun h9cA 43
  have e9f_43 : fi 43 = (fun _ => 0) := congrFun h9fi 43
  have e9c_44 : cA 44 = cA_106 := congrFun h9cA 44
  have e9f_44 : fi 44 = (fun _ => 0) := congrFun h9fi 44
  have e9c_45 : cA 45 = cA_107 := congrFun h9cA 45
  have e9f_45 : fi 45 = (fun _ => 0) := congrFun h9fi 45
  have e9c_46 : cA 46 = cA_108 := congrFun h9cA 46
  have e9l_46 : fl 46 = (fun _ => 0) := congrFun h9fl 46
  have e9c_47 : cA 47 = cA_109 := congrFun h9cA 47
  have e9l_47 : fl 47 = (fun _ => 0) := congrFun h9fl 47
  have e9i_33 : iv 33 = 0 := congrFun h9iv 33
  have e9c_49 : cA 49 = cA_133 := congrFun h9cA 49
  have e9l_49 : fl 49 = (fun _ => 0) := congrFun h9fl 49
  have e9c_50 : cA 50 = cA_134 := congrFun h9cA 50
  have e9l_50 : fl 50 = (fun _ => 0) := congrFun h9fl 50
  have e9c_52 : cA 52 = cA_140 := congrFun h9cA 52
  have e9f_52 : fi 52 = (fun _ => 0) := congrFun h9fi 52
  have e9c_53 : cA 53 = cA_141 := congrFun h9cA 53
  have e9f_53 : fi 53 = (fun _ => 0) := congrFun h9fi 53
  have e9c_54 : cA 54 = cA_142 := congrFun h9cA 54
  have e9f_54 : fi 54 = (fun _ => 0) := congrFun h9fi 54
  have e9c_55 : cA 55 = cA_143 := congrFun h9cA 55
  have e9f_55 : fi 55 = (fun _ => 0) := congrFun h9fi 55
  have e9c_56 : cA 56 = cA_144 := congrFun h9cA 56
  have e9f_56 : fi 56 = (fun _ => 0) := congrFun h9fi 56
  have e9i_34 : iv 34 = 0 := congrFun h9iv 34
  have e9i_35 : iv 35 = 0 := congrFun h9iv 35
  have e9i_36 : iv 36 = 0 := congrFun h9iv 36
  have e9i_37 : iv 37 = 0 := congrFun h9iv 37
  have e9i_38 : iv 38 = 0 := congrFun h9iv 38
  have e9i_39 : iv 39 = 0 := congrFun h9iv 39
  have e9i_40 : iv 40 = 0 := congrFun h9iv 40
  have e9i_41 : iv 41 = 0 := congrFun h9iv 41
  have e9i_42 : iv 42 = 0 := congrFun h9iv 42
  have e9i_43 : iv 43 = 0 := congrFun h9iv 43
  have e9c_58 : cA 58 = cA_172 := congrFun h9cA 58
  have e9f_58 : fi 58 = (fun _ => 0) := congrFun h9fi 58
  have e9c_59 : cA 59 = cA_173 := congrFun h9cA 59
  have e9f_59 : fi 59 = (fun _ => 0) := congrFun h9fi 59
  have e9c_60 : cA 60 = cA_174 := congrFun h9cA 60
  have e9f_60 : fi 60 = (fun _ => 0) := congrFun h9fi 60
  have e9c_61 : cA 61 = cA_175 := congrFun h9cA 61
  have e9f_61 : fi 61 = (fun _ => 0) := congrFun h9fi 61
  have e9c_62 : cA 62 = cA_176 := congrFun h9cA 62
  have e9f_62 : fi 62 = (fun _ => 0) := congrFun h9fi 62
  have e9c_63 : cA 63 = cA_177 := congrFun h9cA 63
  have e9f_63 : fi 63 = (fun _ => 0) := congrFun h9fi 63
  have e9i_44 : iv 44 = 0 := congrFun h9iv 44
  have e9i_45 : iv 45 = 0 := congrFun h9iv 45
  have e9i_46 : iv 46 = 0 := congrFun h9iv 46
  have e9i_47 : iv 47 = 0 := congrFun h9iv 47
  have e9i_48 : iv 48 = 0 := congrFun h9iv 48
  have e9i_49 : iv 49 = 0 := congrFun h9iv 49
  have e9i_50 : iv 50 = 0 := congrFun h9iv 50
  have e9i_51 : iv 51 = 0 := congrFun h9iv 51
  have e9i_52 : iv 52 = 0 := congrFun h9iv 52
  have e9i_53 : iv 53 = 0 := congrFun h9iv 53
  have e9i_54 : iv 54 = 0 := congrFun h9iv 54
  have e9i_55 : iv 55 = 0 := congrFun h9iv 55
  have e9i_56 : iv 56 = 0 := congrFun h9iv 56
  have e9i_57 : iv 57 = 0 := congrFun h9iv 57
  have e9i_58 : iv 58 = 0 := congrFun h9iv 58
  have e9i_59 : iv 59 = 0 := congrFun h9iv 59
  have e9i_60 : iv 60 = 0 := congrFun h9iv 60
  have e9i_61 : iv 61 = 0 := congrFun h9iv 61
  have e9i_62 : iv 62 = 0 := congrFun h9iv 62
  have e9i_63 : iv 63 = 0 := congrFun h9iv 63
  have e9i_64 : iv 64 = 0 := congrFun h9iv 64
  have e9i_65 : iv 65 = 0 := congrFun h9iv 65
  have e9i_66 : iv 66 = 0 := congrFun h9iv 66
  have e9i_67 : iv 67 = 0 := congrFun h9iv 67
  have e9i_68 : iv 68 = (-1) := congrFun h9iv 68
  have e9i_69 : iv 69 = 0 := congrFun h9iv 69
  have e9c_70 : cA 70 = cA_242 := congrFun h9cA 70
  have e9l_70 : fl 70 = (fun _ => 0) := congrFun h9fl 70
  have e9i_70 : iv 70 = (-1) := congrFun h9iv 70
  have e9i_71 : iv 71 = 0 := congrFun h9iv 71
  have e9c_72 : cA 72 = cA_244 := congrFun h9cA 72
  have e9l_72 : fl 72 = (fun _ => 0) := congrFun h9fl 72
  have e9i_72 : iv 72 = (-1) := congrFun h9iv 72
  have e9i_73 : iv 73 = 0 := congrFun h9iv 73
  have e9c_74 : cA 74 = cA_246 := congrFun h9cA 74
  have e9l_74 : fl 74 = (fun _ => 0) := congrFun h9fl 74
  have e9i_74 : iv 74 = (-1) := congrFun h9iv 74
  have e9i_75 : iv 75 = 0 := congrFun h9iv 75
  have e9c_76 : cA 76 = cA_248 := congrFun h9cA 76
  have e9l_76 : fl 76 = (fun _ => 0) := congrFun h9fl 76
  have e9i_76 : iv 76 = 0 := congrFun h9iv 76
  have e9i_77 : iv 77 = 0 := congrFun h9iv 77
  have e9i_78 : iv 78 = 0 := congrFun h9iv 78
  have e9i_79 : iv 79 = 0 := congrFun h9iv 79
  have e9i_80 : iv 80 = 0 := congrFun h9iv 80
  have e9i_81 : iv 81 = 0 := congrFun h9iv 81
  have e9i_82 : iv 82 = 0 := congrFun h9iv 82
  have e9i_83 : iv 83 = 0 := congrFun h9iv 83
  have e9c_78 : cA 78 = cA_25 := congrFun h9cA 78
  have e9f_78 : fi 78 = (fun _ => 0) := congrFun h9fi 78
  have e9c_79 : cA 79 = cA_26 := congrFun h9cA 79
  have e9f_79 : fi 79 = (fun _ => 0) := congrFun h9fi 79
  have e9c_80 : cA 80 = cA_27 := congrFun h9cA 80
  have e9f_80 : fi 80 = (fun _ => 0) := congrFun h9fi 80
  have e9c_81 : cA 81 = cA_28 := congrFun h9cA 81
  have e9f_81 : fi 81 = (fun _ => 0) := congrFun h9fi 81
  have e9c_82 : cA 82 = cA_29 := congrFun h9cA 82
  have e9f_82 : fi 82 = (fun _ => 0) := congrFun h9fi 82
  have e9c_83 : cA 83 = cA_30 := congrFun h9cA 83
  have e9f_83 : fi 83 = (fun _ => 0) := congrFun h9fi 83
  have e9c_84 : cA 84 = cA_31 := congrFun h9cA 84
  have e9f_84 : fi 84 = (fun _ => 0) := congrFun h9fi 84
  have e9c_85 : cA 85 = cA_32 := congrFun h9cA 85
  have e9f_85 : fi 85 = (fun _ => 0) := congrFun h9fi 85
  have e9c_86 : cA 86 = cA_33 := congrFun h9cA 86
  have e9f_86 : fi 86 = (fun _ => 0) := congrFun h9fi 86
  have e9c_87 : cA 87 = cA_34 := congrFun h9cA 87
  have e9f_87 : fi 87 = (fun _ => 0) := congrFun h9fi 87
  have e9i_84 : iv 84 = 0 := congrFun h9iv 84
  have e9i_85 : iv 85 = 0 := congrFun h9iv 85
  have e9i_86 : iv 86 = 0 := congrFun h9iv 86
  have e9i_87 : iv 87 = 0 := congrFun h9iv 87
  have e9i_88 : iv 88 = 0 := congrFun h9iv 88
  have e9i_89 : iv 89 = 0 := congrFun h9iv 89
  have e9i_90 : iv 90 = 0 := congrFun h9iv 90
  have e9i_91 : iv 91 = 0 := congrFun h9iv 91
  have e9c_89 : cA 89 = cA_189 := congrFun h9cA 89
  have e9f_89 : fi 89 = (fun _ => 0) := congrFun h9fi 89
  have e9c_90 : cA 90 = cA_190 := congrFun h9cA 90
  have e9f_90 : fi 90 = (fun _ => 0) := congrFun h9fi 90
  have e9c_91 : cA 91 = cA_191 := congrFun h9cA 91
  have e9f_91 : fi 91 = (fun _ => 0) := congrFun h9fi 91
  have e9c_92 : cA 92 = cA_192 := congrFun h9cA 92
  have e9f_92 : fi 92 = (fun _ => 0) := congrFun h9fi 92
  have e9c_93 : cA 93 = cA_193 := congrFun h9cA 93
  have e9f_93 : fi 93 = (fun _ => 0) := congrFun h9fi 93
  have e9c_94 : cA 94 = cA_194 := congrFun h9cA 94
  have e9f_94 : fi 94 = (fun _ => 0) := congrFun h9fi 94
  have e9c_95 : cA 95 = cA_195 := congrFun h9cA 95
  have e9f_95 : fi 95 = (fun _ => 0) := congrFun h9fi 95
  have e9c_96 : cA 96 = cA_196 := congrFun h9cA 96
  have e9f_96 : fi 96 = (fun _ => 0) := congrFun h9fi 96
  have e9c_97 : cA 97 = cA_197 := congrFun h9cA 97
  have e9f_97 : fi 97 = (fun _ => 0) := congrFun h9fi 97
  have e9c_98 : cA 98 = cA_198 := congrFun h9cA 98
  have e9f_98 : fi 98 = (fun _ => 0) := congrFun h9fi 98
  have e9i_92 : iv 92 = 0 := congrFun h9iv 92
  have e9i_93 : iv 93 = 0 := congrFun h9iv 93
  have e9i_94 : iv 94 = 0 := congrFun h9iv 94
  have e9i_95 : iv 95 = 0 := congrFun h9iv 95
  have e9i_96 : iv 96 = 0 := congrFun h9iv 96
  have e9i_97 : iv 97 = 0 := congrFun h9iv 97
  have e9i_98 : iv 98 = 0 := congrFun h9iv 98
  have e9i_99 : iv 99 = 0 := congrFun h9iv 99
  have e9c_100 : cA 100 = cA_210 := congrFun h9cA 100
  have e9f_100 : fi 100 = (fun _ => 0) := congrFun h9fi 100
  have e9c_101 : cA 101 = cA_211 := congrFun h9cA 101
  have e9f_101 : fi 101 = (fun _ => 0) := congrFun h9fi 101
  have e9c_102 : cA 102 = cA_212 := congrFun h9cA 102
  have e9f_102 : fi 102 = (fun _ => 0) := congrFun h9fi 102
  have e9c_103 : cA 103 = cA_213 := congrFun h9cA 103
  have e9f_103 : fi 103 = (fun _ => 0) := congrFun h9fi 103
  have e9c_104 : cA 104 = cA_214 := congrFun h9cA 104
  have e9f_104 : fi 104 = (fun _ => 0) := congrFun h9fi 104
  have e9c_105 : cA 105 = cA_215 := congrFun h9cA 105
  have e9f_105 : fi 105 = (fun _ => 0) := congrFun h9fi 105
  have e9c_106 : cA 106 = cA_216 := congrFun h9cA 106
  have e9f_106 : fi 106 = (fun _ => 0) := congrFun h9fi 106
  have e9c_107 : cA 107 = cA_217 := congrFun h9cA 107
  have e9f_107 : fi 107 = (fun _ => 0) := congrFun h9fi 107
  have e9c_108 : cA 108 = cA_218 := congrFun h9cA 108
  have e9f_108 : fi 108 = (fun _ => 0) := congrFun h9fi 108
  have e9c_109 : cA 109 = cA_219 := congrFun h9cA 109
  have e9f_109 : fi 109 = (fun _ => 0) := congrFun h9fi 109
  have e9i_100 : iv 100 = 0 := congrFun h9iv 100
  have e9i_101 : iv 101 = 0 := congrFun h9iv 101
  have e9i_102 : iv 102 = 0 := congrFun h9iv 102
  have e9i_103 : iv 103 = 0 := congrFun h9iv 103
  have e9i_104 : iv 104 = 0 := congrFun h9iv 104
  have e9i_105 : iv 105 = 0 := congrFun h9iv 105
  have e9i_106 : iv 106 = 0 := congrFun h9iv 106
  have e9i_107 : iv 107 = 0 := congrFun h9iv 107
  have e9c_111 : cA 111 = cA_231 := congrFun h9cA 111
  have e9f_111 : fi 111 = (fun _ => 0) := congrFun h9fi 111
  have e9c_112 : cA 112 = cA_232 := congrFun h9cA 112
  have e9f_112 : fi 112 = (fun _ => 0) := congrFun h9fi 112
  have e9c_113 : cA 113 = cA_233 := congrFun h9cA 113
  have e9f_113 : fi 113 = (fun _ => 0) := congrFun h9fi 113
  have e9c_114 : cA 114 = cA_234 := congrFun h9cA 114
  have e9f_114 : fi 114 = (fun _ => 0) := congrFun h9fi 114
  have e9c_115 : cA 115 = cA_235 := congrFun h9cA 115
  have e9f_115 : fi 115 = (fun _ => 0) := congrFun h9fi 115
  have e9c_116 : cA 116 = cA_236 := congrFun h9cA 116
  have e9f_116 : fi 116 = (fun _ => 0) := congrFun h9fi 116
  have e9c_117 : cA 117 = cA_237 := congrFun h9cA 117
  have e9f_117 : fi 117 = (fun _ => 0) := congrFun h9fi 117
  have e9c_118 : cA 118 = cA_238 := congrFun h9cA 118
  have e9f_118 : fi 118 = (fun _ => 0) := congrFun h9fi 118
  have e9c_119 : cA 119 = cA_239 := congrFun h9cA 119
  have e9f_119 : fi 119 = (fun _ => 0) := congrFun h9fi 119
  have e9c_120 : cA 120 = cA_240 := congrFun h9cA 120
  have e9f_120 : fi 120 = (fun _ => 0) := congrFun h9fi 120
  refine ⟨ad, cA, iv, lw, fi, fl, fo, ?_, ?_, ?_, e9a_0, e9a_1⟩
  · unfold zFull
    simp only [e9a_0, e9a_1, e9a_2, e9a_3, e9a_4, e9a_5, e9a_6, e9a_7, e9a_8, e9a_9, e9a_10, e9a_11, e9a_12, e9a_13, e9a_14, e9a_15, e9a_16, e9a_17, e9a_18, e9a_19, e9a_20, e9a_21, e9a_22, e9a_23, e9a_24, e9a_25, e9a_26, e9a_27, e9a_28, e9a_29, e9a_30, e9a_31, e9a_32, e9a_33, e9a_34, e9a_35, e9a_36, e9a_37, e9a_38, e9a_39, e9a_40, e9a_41, e9a_42, e9a_43, e9a_44, e9a_45, e9a_46, e9a_47, e9a_48, e9a_49, e9a_50, e9a_51, e9a_52, e9a_53, e9a_54, e9a_55, e9a_56, e9a_57, e9a_58, e9a_59, e9a_60, e9a_61, e9a_62, e9a_63, e9a_64, e9a_65, e9a_66, e9a_67, e9a_68, e9a_69, e9a_70, e9a_71, e9a_72, e9a_73, e9a_74, e9a_75, e9a_76, e9a_77, e9a_78, e9a_79, e9a_80, e9a_81, e9a_82, e9a_83, e9a_84, e9a_85, e9a_86, e9a_87, e9a_88, e9a_89, e9a_90, e9a_91, e9a_92, e9a_93, e9a_94, e9a_95, e9a_96, e9a_97, e9a_98, e9a_99, e9a_100, e9a_101, e9a_102, e9a_103, e9a_104, e9a_105, e9a_106, e9a_107, e9a_108, e9a_109, e9a_110, e9a_111, e9a_112, e9a_113, e9a_114, e9a_115, e9a_116, e9a_117, e9a_118, e9a_119, e9a_120, e9a_121, e9a_122, e9a_123, e9a_124, e9a_125, e9a_126, e9a_127, e9a_128, e9i_0, e9i_1, e9i_2, e9i_3, e9i_4, e9i_5, e9i_6, e9i_7, e9i_8, e9w_0, e9i_9, e9i_10, e9i_11, e9i_12, e9i_13, e9i_14, e9i_15, e9i_16, e9i_17, e9i_18, e9w_1, e9i_19, e9i_20, e9i_21, e9i_22, e9w_2, e9c_2, e9f_2, e9c_3, e9f_3, e9c_4, e9l_4, e9c_5, e9l_5, e9c_6, e9f_6, e9c_7, e9f_7, e9c_8, e9f_8, e9c_9, e9f_9, e9c_10, e9f_10, e9c_11, e9f_11, e9c_12, e9f_12, e9c_13, e9f_13, e9c_14, e9f_14, e9c_15, e9f_15, e9c_16, e9f_16, e9c_17, e9f_17, e9c_18, e9f_18, e9c_19, e9f_19, e9c_20, e9f_20, e9c_21, e9f_21, e9c_22, e9f_22, e9c_23, e9f_23, e9c_24, e9l_24, e9c_25, e9l_25, e9c_26, e9f_26, e9c_27, e9f_27, e9c_28, e9f_28, e9c_29, e9f_29, e9c_30, e9l_30, e9c_31, e9f_31, e9c_32, e9f_32, e9c_33, e9o_33, e9c_34, e9o_34, e9i_23, e9i_24, e9i_25, e9i_26, e9i_27, e9i_28, e9i_29, e9c_36, e9f_36, e9c_37, e9f_37, e9c_38, e9f_38, e9c_39, e9f_39, e9i_30, e9i_31, e9i_32, e9c_41, e9f_41, e9c_42, e9f_42, e9c_43, e9f_43, e9c_44, e9f_44, e9c_45, e9f_45, e9c_46, e9l_46, e9c_47, e9l_47, e9i_33, e9c_49, e9l_49, e9c_50, e9l_50, e9c_52, e9f_52, e9c_53, e9f_53, e9c_54, e9f_54, e9c_55, e9f_55, e9c_56, e9f_56, e9i_34, e9i_35, e9i_36, e9i_37, e9i_38, e9i_39, e9i_40, e9i_41, e9i_42, e9i_43, e9c_58, e9f_58, e9c_59, e9f_59, e9c_60, e9f_60, e9c_61, e9f_61, e9c_62, e9f_62, e9c_63, e9f_63, e9i_44, e9i_45, e9i_46, e9i_47, e9i_48, e9i_49, e9i_50, e9i_51, e9i_52, e9i_53, e9i_54, e9i_55, e9i_56, e9i_57, e9i_58, e9i_59, e9i_60, e9i_61, e9i_62, e9i_63, e9i_64, e9i_65, e9i_66, e9i_67, e9i_68, e9i_69, e9c_70, e9l_70, e9i_70, e9i_71, e9c_72, e9l_72, e9i_72, e9i_73, e9c_74, e9l_74, e9i_74, e9i_75, e9c_76, e9l_76, e9i_76, e9i_77, e9i_78, e9i_79, e9i_80, e9i_81, e9i_82, e9i_83, e9c_78, e9f_78, e9c_79, e9f_79, e9c_80, e9f_80, e9c_81, e9f_81, e9c_82, e9f_82, e9c_83, e9f_83, e9c_84, e9f_84, e9c_85, e9f_85, e9c_86, e9f_86, e9c_87, e9f_87, e9i_84, e9i_85, e9i_86, e9i_87, e9i_88, e9i_89, e9i_90, e9i_91, e9c_89, e9f_89, e9c_90, e9f_90, e9c_91, e9f_91, e9c_92, e9f_92, e9c_93, e9f_93, e9c_94, e9f_94, e9c_95, e9f_95, e9c_96, e9f_96, e9c_97, e9f_97, e9c_98, e9f_98, e9i_92, e9i_93, e9i_94, e9i_95, e9i_96, e9i_97, e9i_98, e9i_99, e9c_100, e9f_100, e9c_101, e9f_101, e9c_102, e9f_102, e9c_103, e9f_103, e9c_104, e9f_104, e9c_105, e9f_105, e9c_106, e9f_106, e9c_107, e9f_107, e9c_108, e9f_108, e9c_109, e9f_109, e9i_100, e9i_101, e9i_102, e9i_103, e9i_104, e9i_105, e9i_106, e9i_107, e9c_111, e9f_111, e9c_112, e9f_112, e9c_113, e9f_113, e9c_114, e9f_114, e9c_115, e9f_115, e9c_116, e9f_116, e9c_117, e9f_117, e9c_118, e9f_118, e9c_119, e9f_119, e9c_120, e9f_120]
  · unfold zTys
    simp only [e9c_2, e9c_3, e9c_4, e9c_5, e9c_6, e9c_7, e9c_8, e9c_9, e9c_10, e9c_11, e9c_12, e9c_13, e9c_14, e9c_15, e9c_16, e9c_17, e9c_18, e9c_19, e9c_20, e9c_21, e9c_22, e9c_23, e9c_24, e9c_25, e9c_26, e9c_27, e9c_28, e9c_29, e9c_30, e9c_31, e9c_32, e9c_33, e9c_34, e9c_36, e9c_37, e9c_38, e9c_39, e9c_41, e9c_42, e9c_43, e9c_44, e9c_45, e9c_46, e9c_47, e9c_49, e9c_50, e9c_52, e9c_53, e9c_54, e9c_55, e9c_56, e9c_58, e9c_59, e9c_60, e9c_61, e9c_62, e9c_63, e9c_70, e9c_72, e9c_74, e9c_76, e9c_78, e9c_79, e9c_80, e9c_81, e9c_82, e9c_83, e9c_84, e9c_85, e9c_86, e9c_87, e9c_89, e9c_90, e9c_91, e9c_92, e9c_93, e9c_94, e9c_95, e9c_96, e9c_97, e9c_98, e9c_100, e9c_101, e9c_102, e9c_103, e9c_104, e9c_105, e9c_106, e9c_107, e9c_108, e9c_109, e9c_111, e9c_112, e9c_113, e9c_114, e9c_115, e9c_116, e9c_117, e9c_118, e9c_119, e9c_120]
  · exact ⟨(by rw [e9i_0]; first | done | exact (show 0 ≤ Int32.toInt 0 ∧ Int32.toInt 0 ≤ 1600 from by decide)), (by rw [e9i_4]; first | done | exact (show 0 ≤ Int32.toInt 0 ∧ Int32.toInt 0 ≤ 1600 from by decide)), (by rw [e9i_5]; first | done | exact (show 0 ≤ Int32.toInt 0 ∧ Int32.toInt 0 ≤ 1600 from by decide)), (by rw [e9i_6]; first | done | exact (show 0 ≤ Int32.toInt 0 ∧ Int32.toInt 0 ≤ 4 from by decide)), (by rw [e9i_8]; first | done | exact (show 0 ≤ Int32.toInt 0 ∧ Int32.toInt 0 ≤ 1000009 from by decide)), (by rw [e9i_9]; first | done | exact (show 0 ≤ Int32.toInt 0 ∧ Int32.toInt 0 ≤ 3 from by decide)), (by rw [e9i_13]; first | done | exact (show 0 ≤ Int32.toInt 0 ∧ Int32.toInt 0 ≤ 5 from by decide)), (by rw [e9i_15]; first | done | exact (show 0 ≤ Int32.toInt 0 ∧ Int32.toInt 0 ≤ 9 from by decide)), (by rw [e9i_20]; first | done | exact (show 0 ≤ Int32.toInt 0 ∧ Int32.toInt 0 ≤ 9 from by decide)), (by rw [e9i_21]; first | done | exact (show 0 ≤ Int32.toInt 0 ∧ Int32.toInt 0 ≤ 48 from by decide)), (by rw [e9f_2]; first | done | exact z_w4), (by rw [e9f_3]; first | done | exact (fun _ => (by decide : 0 ≤ Int32.toInt 0 ∧ Int32.toInt 0 ≤ 60))), (by rw [e9f_8]; first | done | exact (fun _ => (by decide : 0 ≤ Int32.toInt 0 ∧ Int32.toInt 0 ≤ 48))), (by rw [e9f_9]; first | done | exact (fun _ => (by decide : 0 ≤ Int32.toInt 0 ∧ Int32.toInt 0 ≤ 10))), (by rw [e9f_10]; first | done | exact z_blk0), (by rw [e9f_11]; first | done | exact (fun _ => (by decide : 0 ≤ Int32.toInt 0 ∧ Int32.toInt 0 ≤ 16))), (by rw [e9f_12]; first | done | exact (fun _ => (by decide : 0 ≤ Int32.toInt 0 ∧ Int32.toInt 0 ≤ 9))), (by rw [e9f_13]; first | done | exact (fun _ => (by decide : 0 ≤ Int32.toInt 0 ∧ Int32.toInt 0 ≤ 10))), (by rw [e9f_14]; first | done | exact (fun _ => (by decide : 0 ≤ Int32.toInt 0 ∧ Int32.toInt 0 ≤ 9))), (by rw [e9f_15]; first | done | exact z_par0), (by rw [e9f_16]; first | done | exact (fun _ => (by decide : 0 ≤ Int32.toInt 0 ∧ Int32.toInt 0 ≤ 9))), (by rw [e9f_19]; first | done | exact (fun _ => (by decide : 0 ≤ Int32.toInt 0 ∧ Int32.toInt 0 ≤ 2))), (by rw [e9f_31]; first | done | exact (fun _ => (by decide : 0 ≤ Int32.toInt 0 ∧ Int32.toInt 0 ≤ 81))), (by rw [e9o_33, e9a_66]; first | done | exact (show (va_up (va_up (va_up (fun _ => none) (Int32.toNatClampNeg 0) (some q_36)) (Int32.toNatClampNeg 1) (some q_37)) (Int32.toNatClampNeg 2) (some q_38)) 0 = some q_36 from (by first | rfl | decide | simp [va_up]))), (by rw [e9o_33, e9a_67]; first | done | exact (show (va_up (va_up (va_up (fun _ => none) (Int32.toNatClampNeg 0) (some q_36)) (Int32.toNatClampNeg 1) (some q_37)) (Int32.toNatClampNeg 2) (some q_38)) 1 = some q_37 from (by first | rfl | decide | simp [va_up]))), (by rw [e9o_33, e9a_68]; first | done | exact (show (va_up (va_up (va_up (fun _ => none) (Int32.toNatClampNeg 0) (some q_36)) (Int32.toNatClampNeg 1) (some q_37)) (Int32.toNatClampNeg 2) (some q_38)) 2 = some q_38 from (by first | rfl | decide | simp [va_up]))), (by rw [e9o_34, e9a_69]; first | done | exact (show (va_up (va_up (va_up (va_up (fun _ => none) (Int32.toNatClampNeg 0) (some q_40)) (Int32.toNatClampNeg 1) (some q_41)) (Int32.toNatClampNeg 2) (some q_42)) (Int32.toNatClampNeg 3) (some q_43)) 0 = some q_40 from (by first | rfl | decide | simp [va_up]))), (by rw [e9o_34, e9a_71]; first | done | exact (show (va_up (va_up (va_up (va_up (fun _ => none) (Int32.toNatClampNeg 0) (some q_40)) (Int32.toNatClampNeg 1) (some q_41)) (Int32.toNatClampNeg 2) (some q_42)) (Int32.toNatClampNeg 3) (some q_43)) 1 = some q_41 from (by first | rfl | decide | simp [va_up]))), (by rw [e9o_34, e9a_73]; first | done | exact (show (va_up (va_up (va_up (va_up (fun _ => none) (Int32.toNatClampNeg 0) (some q_40)) (Int32.toNatClampNeg 1) (some q_41)) (Int32.toNatClampNeg 2) (some q_42)) (Int32.toNatClampNeg 3) (some q_43)) 2 = some q_42 from (by first | rfl | decide | simp [va_up]))), (by rw [e9o_34, e9a_75]; first | done | exact (show (va_up (va_up (va_up (va_up (fun _ => none) (Int32.toNatClampNeg 0) (some q_40)) (Int32.toNatClampNeg 1) (some q_41)) (Int32.toNatClampNeg 2) (some q_42)) (Int32.toNatClampNeg 3) (some q_43)) 3 = some q_43 from (by first | rfl | decide | simp [va_up]))), (by rw [e9i_25]; first | done | exact (show 0 ≤ Int32.toInt 0 ∧ Int32.toInt 0 ≤ 1600 from by decide)), (by rw [e9i_26]; first | done | exact (show 0 ≤ Int32.toInt 0 ∧ Int32.toInt 0 ≤ 1600 from by decide)), (by rw [e9i_27]; first | done | exact (show 0 ≤ Int32.toInt 0 ∧ Int32.toInt 0 ≤ 4 from by decide)), (by rw [e9i_28]; first | done | exact (show 0 ≤ Int32.toInt 0 ∧ Int32.toInt 0 ≤ 1 from by decide)), (by rw [e9i_29]; first | done | exact (show 0 ≤ Int32.toInt 0 ∧ Int32.toInt 0 ≤ 1 from by decide)), (by rw [e9f_36]; first | done | exact (fun _ => (by decide : 0 ≤ Int32.toInt 0 ∧ Int32.toInt 0 ≤ 5))), (by rw [e9f_37]; first | done | exact (fun _ => (by decide : 0 ≤ Int32.toInt 0 ∧ Int32.toInt 0 ≤ 1600))), (by rw [e9f_38]; first | done | exact (fun _ => (by decide : 0 ≤ Int32.toInt 0 ∧ Int32.toInt 0 ≤ 1600))), (by rw [e9f_39]; first | done | exact (fun _ => (by decide : 0 ≤ Int32.toInt 0 ∧ Int32.toInt 0 ≤ 100000))), (by rw [e9i_31]; first | done | exact (show (-1) ≤ Int32.toInt 0 ∧ Int32.toInt 0 ≤ 15 from by decide)), (by rw [e9i_32]; first | done | exact (show (-1) ≤ Int32.toInt 0 ∧ Int32.toInt 0 ≤ 47 from by decide)), (by rw [e9f_44]; first | done | exact (fun _ => (by decide : 0 ≤ Int32.toInt 0 ∧ Int32.toInt 0 ≤ 1001))), (by rw [e9f_45]; first | done | exact (fun _ => (by decide : 0 ≤ Int32.toInt 0 ∧ Int32.toInt 0 ≤ 1001))), (by rw [e9i_37]; first | done | exact (show 0 ≤ Int32.toInt 0 ∧ Int32.toInt 0 ≤ 48 from by decide)), (by rw [e9i_38]; first | done | exact (show 0 ≤ Int32.toInt 0 ∧ Int32.toInt 0 ≤ 4 from by decide)), (by rw [e9f_58]; first | done | exact (fun _ => (by decide : 0 ≤ Int32.toInt 0 ∧ Int32.toInt 0 ≤ 9))), (by rw [e9f_59]; first | done | exact (fun _ => (by decide : (-1) ≤ Int32.toInt 0 ∧ Int32.toInt 0 ≤ 3))), (by rw [e9f_60]; first | done | exact (fun _ => (by decide : 0 ≤ Int32.toInt 0 ∧ Int32.toInt 0 ≤ 1000000000))), (by rw [e9f_63]; first | done | exact (fun _ => (by decide : 0 ≤ Int32.toInt 0 ∧ Int32.toInt 0 ≤ 2))), (by rw [e9i_45]; first | done | exact (show 0 ≤ Int32.toInt 0 ∧ Int32.toInt 0 ≤ 9 from by decide)), (by rw [e9i_46]; first | done | exact (show 0 ≤ Int32.toInt 0 ∧ Int32.toInt 0 ≤ 48 from by decide)), (by rw [e9i_48]; first | done | exact (show 0 ≤ Int32.toInt 0 ∧ Int32.toInt 0 ≤ 1 from by decide)), (by rw [e9i_50]; first | done | exact (show 0 ≤ Int32.toInt 0 ∧ Int32.toInt 0 ≤ 1023 from by decide)), (by rw [e9i_53]; first | done | exact (show 0 ≤ Int32.toInt 0 ∧ Int32.toInt 0 ≤ 1 from by decide)), (by rw [e9i_55]; first | done | exact (show 0 ≤ Int32.toInt 0 ∧ Int32.toInt 0 ≤ 1023 from by decide)), (by rw [e9i_58]; first | done | exact (show 0 ≤ Int32.toInt 0 ∧ Int32.toInt 0 ≤ 1 from by decide)), (by rw [e9i_60]; first | done | exact (show 0 ≤ Int32.toInt 0 ∧ Int32.toInt 0 ≤ 1023 from by decide)), (by rw [e9i_63]; first | done | exact (show 0 ≤ Int32.toInt 0 ∧ Int32.toInt 0 ≤ 1 from by decide)), (by rw [e9i_65]; first | done | exact (show 0 ≤ Int32.toInt 0 ∧ Int32.toInt 0 ≤ 1023 from by decide)), (by rw [e9i_69]; first | done | exact (show 0 ≤ Int32.toInt 0 ∧ Int32.toInt 0 ≤ 60 from by decide)), (by rw [e9i_71]; first | done | exact (show 0 ≤ Int32.toInt 0 ∧ Int32.toInt 0 ≤ 60 from by decide)), (by rw [e9i_73]; first | done | exact (show 0 ≤ Int32.toInt 0 ∧ Int32.toInt 0 ≤ 60 from by decide)), (by rw [e9i_75]; first | done | exact (show 0 ≤ Int32.toInt 0 ∧ Int32.toInt 0 ≤ 60 from by decide)), (by rw [e9i_76]; first | done | exact (show 0 ≤ Int32.toInt 0 ∧ Int32.toInt 0 ≤ 48 from by decide)), (by rw [e9i_77]; first | done | exact (show 0 ≤ Int32.toInt 0 ∧ Int32.toInt 0 ≤ 10 from by decide)), (by rw [e9i_78]; first | done | exact (show 0 ≤ Int32.toInt 0 ∧ Int32.toInt 0 ≤ 16 from by decide)), (by rw [e9i_79]; first | done | exact (show 0 ≤ Int32.toInt 0 ∧ Int32.toInt 0 ≤ 10 from by decide)), (by rw [e9i_81]; first | done | exact (show 0 ≤ Int32.toInt 0 ∧ Int32.toInt 0 ≤ 9 from by decide)), (by rw [e9i_83]; first | done | exact (show 0 ≤ Int32.toInt 0 ∧ Int32.toInt 0 ≤ 1 from by decide)), (by rw [e9f_80]; first | done | exact (fun _ => (by decide : 0 ≤ Int32.toInt 0 ∧ Int32.toInt 0 ≤ 10))), (by rw [e9f_81]; first | done | exact (fun _ => (by decide : 0 ≤ Int32.toInt 0 ∧ Int32.toInt 0 ≤ 9))), (by rw [e9f_83]; first | done | exact (fun _ => (by decide : 0 ≤ Int32.toInt 0 ∧ Int32.toInt 0 ≤ 9))), (by rw [e9f_84]; first | done | exact (fun _ => (by decide : 0 ≤ Int32.toInt 0 ∧ Int32.toInt 0 ≤ 9))), (by rw [e9f_85]; first | done | exact (fun _ => (by decide : 0 ≤ Int32.toInt 0 ∧ Int32.toInt 0 ≤ 9))), (by rw [e9f_86]; first | done | exact (fun _ => (by decide : 0 ≤ Int32.toInt 0 ∧ Int32.toInt 0 ≤ 99))), (by rw [e9f_87]; first | done | exact (fun _ => (by decide : 0 ≤ Int32.toInt 0 ∧ Int32.toInt 0 ≤ 9))), (by rw [e9i_84]; first | done | exact (show 0 ≤ Int32.toInt 0 ∧ Int32.toInt 0 ≤ 48 from by decide)), (by rw [e9i_85]; first | done | exact (show 0 ≤ Int32.toInt 0 ∧ Int32.toInt 0 ≤ 10 from by decide)), (by rw [e9i_86]; first | done | exact (show 0 ≤ Int32.toInt 0 ∧ Int32.toInt 0 ≤ 16 from by decide)), (by rw [e9i_87]; first | done | exact (show 0 ≤ Int32.toInt 0 ∧ Int32.toInt 0 ≤ 10 from by decide)), (by rw [e9i_89]; first | done | exact (show 0 ≤ Int32.toInt 0 ∧ Int32.toInt 0 ≤ 9 from by decide)), (by rw [e9i_91]; first | done | exact (show 0 ≤ Int32.toInt 0 ∧ Int32.toInt 0 ≤ 1 from by decide)), (by rw [e9f_91]; first | done | exact (fun _ => (by decide : 0 ≤ Int32.toInt 0 ∧ Int32.toInt 0 ≤ 10))), (by rw [e9f_92]; first | done | exact (fun _ => (by decide : 0 ≤ Int32.toInt 0 ∧ Int32.toInt 0 ≤ 9))), (by rw [e9f_94]; first | done | exact (fun _ => (by decide : 0 ≤ Int32.toInt 0 ∧ Int32.toInt 0 ≤ 9))), (by rw [e9f_95]; first | done | exact (fun _ => (by decide : 0 ≤ Int32.toInt 0 ∧ Int32.toInt 0 ≤ 9))), (by rw [e9f_96]; first | done | exact (fun _ => (by decide : 0 ≤ Int32.toInt 0 ∧ Int32.toInt 0 ≤ 9))), (by rw [e9f_97]; first | done | exact (fun _ => (by decide : 0 ≤ Int32.toInt 0 ∧ Int32.toInt 0 ≤ 99))), (by rw [e9f_98]; first | done | exact (fun _ => (by decide : 0 ≤ Int32.toInt 0 ∧ Int32.toInt 0 ≤ 9))), (by rw [e9i_92]; first | done | exact (show 0 ≤ Int32.toInt 0 ∧ Int32.toInt 0 ≤ 48 from by decide)), (by rw [e9i_93]; first | done | exact (show 0 ≤ Int32.toInt 0 ∧ Int32.toInt 0 ≤ 10 from by decide)), (by rw [e9i_94]; first | done | exact (show 0 ≤ Int32.toInt 0 ∧ Int32.toInt 0 ≤ 16 from by decide)), (by rw [e9i_95]; first | done | exact (show 0 ≤ Int32.toInt 0 ∧ Int32.toInt 0 ≤ 10 from by decide)), (by rw [e9i_97]; first | done | exact (show 0 ≤ Int32.toInt 0 ∧ Int32.toInt 0 ≤ 9 from by decide)), (by rw [e9i_99]; first | done | exact (show 0 ≤ Int32.toInt 0 ∧ Int32.toInt 0 ≤ 1 from by decide)), (by rw [e9f_102]; first | done | exact (fun _ => (by decide : 0 ≤ Int32.toInt 0 ∧ Int32.toInt 0 ≤ 10))), (by rw [e9f_103]; first | done | exact (fun _ => (by decide : 0 ≤ Int32.toInt 0 ∧ Int32.toInt 0 ≤ 9))), (by rw [e9f_105]; first | done | exact (fun _ => (by decide : 0 ≤ Int32.toInt 0 ∧ Int32.toInt 0 ≤ 9))), (by rw [e9f_106]; first | done | exact (fun _ => (by decide : 0 ≤ Int32.toInt 0 ∧ Int32.toInt 0 ≤ 9))), (by rw [e9f_107]; first | done | exact (fun _ => (by decide : 0 ≤ Int32.toInt 0 ∧ Int32.toInt 0 ≤ 9))), (by rw [e9f_108]; first | done | exact (fun _ => (by decide : 0 ≤ Int32.toInt 0 ∧ Int32.toInt 0 ≤ 99))), (by rw [e9f_109]; first | done | exact (fun _ => (by decide : 0 ≤ Int32.toInt 0 ∧ Int32.toInt 0 ≤ 9))), (by rw [e9i_100]; first | done | exact (show 0 ≤ Int32.toInt 0 ∧ Int32.toInt 0 ≤ 48 from by decide)), (by rw [e9i_101]; first | done | exact (show 0 ≤ Int32.toInt 0 ∧ Int32.toInt 0 ≤ 10 from by decide)), (by rw [e9i_102]; first | done | exact (show 0 ≤ Int32.toInt 0 ∧ Int32.toInt 0 ≤ 16 from by decide)), (by rw [e9i_103]; first | done | exact (show 0 ≤ Int32.toInt 0 ∧ Int32.toInt 0 ≤ 10 from by decide)), (by rw [e9i_105]; first | done | exact (show 0 ≤ Int32.toInt 0 ∧ Int32.toInt 0 ≤ 9 from by decide)), (by rw [e9i_107]; first | done | exact (show 0 ≤ Int32.toInt 0 ∧ Int32.toInt 0 ≤ 1 from by decide)), (by rw [e9f_113]; first | done | exact (fun _ => (by decide : 0 ≤ Int32.toInt 0 ∧ Int32.toInt 0 ≤ 10))), (by rw [e9f_114]; first | done | exact (fun _ => (by decide : 0 ≤ Int32.toInt 0 ∧ Int32.toInt 0 ≤ 9))), (by rw [e9f_116]; first | done | exact (fun _ => (by decide : 0 ≤ Int32.toInt 0 ∧ Int32.toInt 0 ≤ 9))), (by rw [e9f_117]; first | done | exact (fun _ => (by decide : 0 ≤ Int32.toInt 0 ∧ Int32.toInt 0 ≤ 9))), (by rw [e9f_118]; first | done | exact (fun _ => (by decide : 0 ≤ Int32.toInt 0 ∧ Int32.toInt 0 ≤ 9))), (by rw [e9f_119]; first | done | exact (fun _ => (by decide : 0 ≤ Int32.toInt 0 ∧ Int32.toInt 0 ≤ 99))), (by rw [e9f_120]; first | done | exact (fun _ => (by decide : 0 ≤ Int32.toInt 0 ∧ Int32.toInt 0 ≤ 9))), (by rw [e9f_83, e9f_84, e9f_79, e9f_80, e9i_78]; first | done | exact (show zTw (fun _ => 0) (fun _ => 0) (fun _ => 0) (fun _ => 0) (Int32.toInt 0) from zTw.zero rfl)), (by rw [e9f_94, e9f_95, e9f_90, e9f_91, e9i_86]; first | done | exact (show zTw (fun _ => 0) (fun _ => 0) (fun _ => 0) (fun _ => 0) (Int32.toInt 0) from zTw.zero rfl)), (by rw [e9f_105, e9f_106, e9f_101, e9f_102, e9i_94]; first | done | exact (show zTw (fun _ => 0) (fun _ => 0) (fun _ => 0) (fun _ => 0) (Int32.toInt 0) from zTw.zero rfl)), (by rw [e9f_116, e9f_117, e9f_112, e9f_113, e9i_102]; first | done | exact (show zTw (fun _ => 0) (fun _ => 0) (fun _ => 0) (fun _ => 0) (Int32.toInt 0) from zTw.zero rfl)), (by rw [e9f_10, e9f_9, e9f_8, e9f_13, e9f_15]; first | done | exact zMd_zero), (Or.inr (Or.inl (e9a_126.trans e9a_88.symm))), (Or.inr (Or.inr (Or.inl (e9a_127.trans e9a_99.symm)))), (Or.inr (Or.inr (Or.inr ((e9a_128.trans e9a_110.symm)))))⟩
