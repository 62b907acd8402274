theorem copyRow49_0 {h : zM} {i : Nat} (hi : i < 3) : (zu (zu (zu (zu (zu (zcp (zcp (zcp (zcp (zcp (zcp (zcp (zcp (zcp h 19 0 50 0 3) 20 0 51 0 3) 21 0 52 0 3) 22 0 53 0 4) 23 0 54 0 4) 24 0 55 0 4) 25 0 56 0 4) 26 0 57 0 4) 27 0 58 0 3) 49 9 (h 18 9)) 49 10 (h 18 10)) 49 11 (h 18 11)) 49 12 (h 18 12)) 49 13 (h 18 13)) 50 i = h 19 i := by
  rw [zu_c (by decide), zu_c (by decide), zu_c (by decide), zu_c (by decide), zu_c (by decide), zcp_c (by decide), zcp_c (by decide), zcp_c (by decide), zcp_c (by decide), zcp_c (by decide), zcp_c (by decide), zcp_c (by decide), zcp_c (by decide)]
  have q := zcp_i (h := h) (a := 19) (sp := 0) (b := 50) (dp := 0) hi
  rw [Nat.zero_add] at q
  rw [q]
  skip
theorem copyRow49_1 {h : zM} {i : Nat} (hi : i < 3) : (zu (zu (zu (zu (zu (zcp (zcp (zcp (zcp (zcp (zcp (zcp (zcp (zcp h 19 0 50 0 3) 20 0 51 0 3) 21 0 52 0 3) 22 0 53 0 4) 23 0 54 0 4) 24 0 55 0 4) 25 0 56 0 4) 26 0 57 0 4) 27 0 58 0 3) 49 9 (h 18 9)) 49 10 (h 18 10)) 49 11 (h 18 11)) 49 12 (h 18 12)) 49 13 (h 18 13)) 51 i = h 20 i := by
  rw [zu_c (by decide), zu_c (by decide), zu_c (by decide), zu_c (by decide), zu_c (by decide), zcp_c (by decide), zcp_c (by decide), zcp_c (by decide), zcp_c (by decide), zcp_c (by decide), zcp_c (by decide), zcp_c (by decide)]
  have q := zcp_i (h := (zcp h 19 0 50 0 3)) (a := 20) (sp := 0) (b := 51) (dp := 0) hi
  rw [Nat.zero_add] at q
  rw [q]
  rw [zcp_c (by decide)]
theorem copyRow49_2 {h : zM} {i : Nat} (hi : i < 3) : (zu (zu (zu (zu (zu (zcp (zcp (zcp (zcp (zcp (zcp (zcp (zcp (zcp h 19 0 50 0 3) 20 0 51 0 3) 21 0 52 0 3) 22 0 53 0 4) 23 0 54 0 4) 24 0 55 0 4) 25 0 56 0 4) 26 0 57 0 4) 27 0 58 0 3) 49 9 (h 18 9)) 49 10 (h 18 10)) 49 11 (h 18 11)) 49 12 (h 18 12)) 49 13 (h 18 13)) 52 i = h 21 i := by
  rw [zu_c (by decide), zu_c (by decide), zu_c (by decide), zu_c (by decide), zu_c (by decide), zcp_c (by decide), zcp_c (by decide), zcp_c (by decide), zcp_c (by decide), zcp_c (by decide), zcp_c (by decide)]
  have q := zcp_i (h := (zcp (zcp h 19 0 50 0 3) 20 0 51 0 3)) (a := 21) (sp := 0) (b := 52) (dp := 0) hi
  rw [Nat.zero_add] at q
  rw [q]
  rw [zcp_c (by decide), zcp_c (by decide)]
theorem copyRow49_3 {h : zM} {i : Nat} (hi : i < 4) : (zu (zu (zu (zu (zu (zcp (zcp (zcp (zcp (zcp (zcp (zcp (zcp (zcp h 19 0 50 0 3) 20 0 51 0 3) 21 0 52 0 3) 22 0 53 0 4) 23 0 54 0 4) 24 0 55 0 4) 25 0 56 0 4) 26 0 57 0 4) 27 0 58 0 3) 49 9 (h 18 9)) 49 10 (h 18 10)) 49 11 (h 18 11)) 49 12 (h 18 12)) 49 13 (h 18 13)) 53 i = h 22 i := by
  rw [zu_c (by decide), zu_c (by decide), zu_c (by decide), zu_c (by decide), zu_c (by decide), zcp_c (by decide), zcp_c (by decide), zcp_c (by decide), zcp_c (by decide), zcp_c (by decide)]
  have q := zcp_i (h := (zcp (zcp (zcp h 19 0 50 0 3) 20 0 51 0 3) 21 0 52 0 3)) (a := 22) (sp := 0) (b := 53) (dp := 0) hi
  rw [Nat.zero_add] at q
  rw [q]
  rw [zcp_c (by decide), zcp_c (by decide), zcp_c (by decide)]
theorem copyRow49_4 {h : zM} {i : Nat} (hi : i < 4) : (zu (zu (zu (zu (zu (zcp (zcp (zcp (zcp (zcp (zcp (zcp (zcp (zcp h 19 0 50 0 3) 20 0 51 0 3) 21 0 52 0 3) 22 0 53 0 4) 23 0 54 0 4) 24 0 55 0 4) 25 0 56 0 4) 26 0 57 0 4) 27 0 58 0 3) 49 9 (h 18 9)) 49 10 (h 18 10)) 49 11 (h 18 11)) 49 12 (h 18 12)) 49 13 (h 18 13)) 54 i = h 23 i := by
  rw [zu_c (by decide), zu_c (by decide), zu_c (by decide), zu_c (by decide), zu_c (by decide), zcp_c (by decide), zcp_c (by decide), zcp_c (by decide), zcp_c (by decide)]
  have q := zcp_i (h := (zcp (zcp (zcp (zcp h 19 0 50 0 3) 20 0 51 0 3) 21 0 52 0 3) 22 0 53 0 4)) (a := 23) (sp := 0) (b := 54) (dp := 0) hi
  rw [Nat.zero_add] at q
  rw [q]
  rw [zcp_c (by decide), zcp_c (by decide), zcp_c (by decide), zcp_c (by decide)]
theorem copyRow49_5 {h : zM} {i : Nat} (hi : i < 4) : (zu (zu (zu (zu (zu (zcp (zcp (zcp (zcp (zcp (zcp (zcp (zcp (zcp h 19 0 50 0 3) 20 0 51 0 3) 21 0 52 0 3) 22 0 53 0 4) 23 0 54 0 4) 24 0 55 0 4) 25 0 56 0 4) 26 0 57 0 4) 27 0 58 0 3) 49 9 (h 18 9)) 49 10 (h 18 10)) 49 11 (h 18 11)) 49 12 (h 18 12)) 49 13 (h 18 13)) 55 i = h 24 i := by
  rw [zu_c (by decide), zu_c (by decide), zu_c (by decide), zu_c (by decide), zu_c (by decide), zcp_c (by decide), zcp_c (by decide), zcp_c (by decide)]
  have q := zcp_i (h := (zcp (zcp (zcp (zcp (zcp h 19 0 50 0 3) 20 0 51 0 3) 21 0 52 0 3) 22 0 53 0 4) 23 0 54 0 4)) (a := 24) (sp := 0) (b := 55) (dp := 0) hi
  rw [Nat.zero_add] at q
  rw [q]
  rw [zcp_c (by decide), zcp_c (by decide), zcp_c (by decide), zcp_c (by decide), zcp_c (by decide)]
theorem copyRow49_6 {h : zM} {i : Nat} (hi : i < 4) : (zu (zu (zu (zu (zu (zcp (zcp (zcp (zcp (zcp (zcp (zcp (zcp (zcp h 19 0 50 0 3) 20 0 51 0 3) 21 0 52 0 3) 22 0 53 0 4) 23 0 54 0 4) 24 0 55 0 4) 25 0 56 0 4) 26 0 57 0 4) 27 0 58 0 3) 49 9 (h 18 9)) 49 10 (h 18 10)) 49 11 (h 18 11)) 49 12 (h 18 12)) 49 13 (h 18 13)) 56 i = h 25 i := by
  rw [zu_c (by decide), zu_c (by decide), zu_c (by decide), zu_c (by decide), zu_c (by decide), zcp_c (by decide), zcp_c (by decide)]
  have q := zcp_i (h := (zcp (zcp (zcp (zcp (zcp (zcp h 19 0 50 0 3) 20 0 51 0 3) 21 0 52 0 3) 22 0 53 0 4) 23 0 54 0 4) 24 0 55 0 4)) (a := 25) (sp := 0) (b := 56) (dp := 0) hi
  rw [Nat.zero_add] at q
  rw [q]
  rw [zcp_c (by decide), zcp_c (by decide), zcp_c (by decide), zcp_c (by decide), zcp_c (by decide), zcp_c (by decide)]
theorem copyRow49_7 {h : zM} {i : Nat} (hi : i < 4) : (zu (zu (zu (zu (zu (zcp (zcp (zcp (zcp (zcp (zcp (zcp (zcp (zcp h 19 0 50 0 3) 20 0 51 0 3) 21 0 52 0 3) 22 0 53 0 4) 23 0 54 0 4) 24 0 55 0 4) 25 0 56 0 4) 26 0 57 0 4) 27 0 58 0 3) 49 9 (h 18 9)) 49 10 (h 18 10)) 49 11 (h 18 11)) 49 12 (h 18 12)) 49 13 (h 18 13)) 57 i = h 26 i := by
  rw [zu_c (by decide), zu_c (by decide), zu_c (by decide), zu_c (by decide), zu_c (by decide), zcp_c (by decide)]
  have q := zcp_i (h := (zcp (zcp (zcp (zcp (zcp (zcp (zcp h 19 0 50 0 3) 20 0 51 0 3) 21 0 52 0 3) 22 0 53 0 4) 23 0 54 0 4) 24 0 55 0 4) 25 0 56 0 4)) (a := 26) (sp := 0) (b := 57) (dp := 0) hi
  rw [Nat.zero_add] at q
  rw [q]
  rw [zcp_c (by decide), zcp_c (by decide), zcp_c (by decide), zcp_c (by decide), zcp_c (by decide), zcp_c (by decide), zcp_c (by decide)]
theorem copyRow49_8 {h : zM} {i : Nat} (hi : i < 3) : (zu (zu (zu (zu (zu (zcp (zcp (zcp (zcp (zcp (zcp (zcp (zcp (zcp h 19 0 50 0 3) 20 0 51 0 3) 21 0 52 0 3) 22 0 53 0 4) 23 0 54 0 4) 24 0 55 0 4) 25 0 56 0 4) 26 0 57 0 4) 27 0 58 0 3) 49 9 (h 18 9)) 49 10 (h 18 10)) 49 11 (h 18 11)) 49 12 (h 18 12)) 49 13 (h 18 13)) 58 i = h 27 i := by
  rw [zu_c (by decide), zu_c (by decide), zu_c (by decide), zu_c (by decide), zu_c (by decide)]
  have q := zcp_i (h := (zcp (zcp (zcp (zcp (zcp (zcp (zcp (zcp h 19 0 50 0 3) 20 0 51 0 3) 21 0 52 0 3) 22 0 53 0 4) 23 0 54 0 4) 24 0 55 0 4) 25 0 56 0 4) 26 0 57 0 4)) (a := 27) (sp := 0) (b := 58) (dp := 0) hi
  rw [Nat.zero_add] at q
  rw [q]
  rw [zcp_c (by decide), zcp_c (by decide), zcp_c (by decide), zcp_c (by decide), zcp_c (by decide), zcp_c (by decide), zcp_c (by decide), zcp_c (by decide)]
theorem copyRow18_0 {h : zM} {i : Nat} (hi : i < 3) : (zu (zu (zu (zu (zu (zcp (zcp (zcp (zcp (zcp (zcp (zcp (zcp (zcp h 7 0 19 0 3) 8 0 20 0 3) 9 0 21 0 3) 10 0 22 0 4) 11 0 23 0 4) 12 0 24 0 4) 13 0 25 0 4) 14 0 26 0 4) 15 0 27 0 3) 18 9 (h 6 9)) 18 10 (h 6 10)) 18 11 (h 6 11)) 18 12 (h 6 12)) 18 13 (h 6 13)) 19 i = h 7 i := by
  rw [zu_c (by decide), zu_c (by decide), zu_c (by decide), zu_c (by decide), zu_c (by decide), zcp_c (by decide), zcp_c (by decide), zcp_c (by decide), zcp_c (by decide), zcp_c (by decide), zcp_c (by decide), zcp_c (by decide), zcp_c (by decide)]
  have q := zcp_i (h := h) (a := 7) (sp := 0) (b := 19) (dp := 0) hi
  rw [Nat.zero_add] at q
  rw [q]
  skip
theorem copyRow18_1 {h : zM} {i : Nat} (hi : i < 3) : (zu (zu (zu (zu (zu (zcp (zcp (zcp (zcp (zcp (zcp (zcp (zcp (zcp h 7 0 19 0 3) 8 0 20 0 3) 9 0 21 0 3) 10 0 22 0 4) 11 0 23 0 4) 12 0 24 0 4) 13 0 25 0 4) 14 0 26 0 4) 15 0 27 0 3) 18 9 (h 6 9)) 18 10 (h 6 10)) 18 11 (h 6 11)) 18 12 (h 6 12)) 18 13 (h 6 13)) 20 i = h 8 i := by
  rw [zu_c (by decide), zu_c (by decide), zu_c (by decide), zu_c (by decide), zu_c (by decide), zcp_c (by decide), zcp_c (by decide), zcp_c (by decide), zcp_c (by decide), zcp_c (by decide), zcp_c (by decide), zcp_c (by decide)]
  have q := zcp_i (h := (zcp h 7 0 19 0 3)) (a := 8) (sp := 0) (b := 20) (dp := 0) hi
  rw [Nat.zero_add] at q
  rw [q]
  rw [zcp_c (by decide)]
theorem copyRow18_2 {h : zM} {i : Nat} (hi : i < 3) : (zu (zu (zu (zu (zu (zcp (zcp (zcp (zcp (zcp (zcp (zcp (zcp (zcp h 7 0 19 0 3) 8 0 20 0 3) 9 0 21 0 3) 10 0 22 0 4) 11 0 23 0 4) 12 0 24 0 4) 13 0 25 0 4) 14 0 26 0 4) 15 0 27 0 3) 18 9 (h 6 9)) 18 10 (h 6 10)) 18 11 (h 6 11)) 18 12 (h 6 12)) 18 13 (h 6 13)) 21 i = h 9 i := by
  rw [zu_c (by decide), zu_c (by decide), zu_c (by decide), zu_c (by decide), zu_c (by decide), zcp_c (by decide), zcp_c (by decide), zcp_c (by decide), zcp_c (by decide), zcp_c (by decide), zcp_c (by decide)]
  have q := zcp_i (h := (zcp (zcp h 7 0 19 0 3) 8 0 20 0 3)) (a := 9) (sp := 0) (b := 21) (dp := 0) hi
  rw [Nat.zero_add] at q
  rw [q]
  rw [zcp_c (by decide), zcp_c (by decide)]
theorem copyRow18_3 {h : zM} {i : Nat} (hi : i < 4) : (zu (zu (zu (zu (zu (zcp (zcp (zcp (zcp (zcp (zcp (zcp (zcp (zcp h 7 0 19 0 3) 8 0 20 0 3) 9 0 21 0 3) 10 0 22 0 4) 11 0 23 0 4) 12 0 24 0 4) 13 0 25 0 4) 14 0 26 0 4) 15 0 27 0 3) 18 9 (h 6 9)) 18 10 (h 6 10)) 18 11 (h 6 11)) 18 12 (h 6 12)) 18 13 (h 6 13)) 22 i = h 10 i := by
  rw [zu_c (by decide), zu_c (by decide), zu_c (by decide), zu_c (by decide), zu_c (by decide), zcp_c (by decide), zcp_c (by decide), zcp_c (by decide), zcp_c (by decide), zcp_c (by decide)]
  have q := zcp_i (h := (zcp (zcp (zcp h 7 0 19 0 3) 8 0 20 0 3) 9 0 21 0 3)) (a := 10) (sp := 0) (b := 22) (dp := 0) hi
  rw [Nat.zero_add] at q
  rw [q]
  rw [zcp_c (by decide), zcp_c (by decide), zcp_c (by decide)]
theorem copyRow18_4 {h : zM} {i : Nat} (hi : i < 4) : (zu (zu (zu (zu (zu (zcp (zcp (zcp (zcp (zcp (zcp (zcp (zcp (zcp h 7 0 19 0 3) 8 0 20 0 3) 9 0 21 0 3) 10 0 22 0 4) 11 0 23 0 4) 12 0 24 0 4) 13 0 25 0 4) 14 0 26 0 4) 15 0 27 0 3) 18 9 (h 6 9)) 18 10 (h 6 10)) 18 11 (h 6 11)) 18 12 (h 6 12)) 18 13 (h 6 13)) 23 i = h 11 i := by
  rw [zu_c (by decide), zu_c (by decide), zu_c (by decide), zu_c (by decide), zu_c (by decide), zcp_c (by decide), zcp_c (by decide), zcp_c (by decide), zcp_c (by decide)]
  have q := zcp_i (h := (zcp (zcp (zcp (zcp h 7 0 19 0 3) 8 0 20 0 3) 9 0 21 0 3) 10 0 22 0 4)) (a := 11) (sp := 0) (b := 23) (dp := 0) hi
  rw [Nat.zero_add] at q
  rw [q]
  rw [zcp_c (by decide), zcp_c (by decide), zcp_c (by decide), zcp_c (by decide)]
theorem copyRow18_5 {h : zM} {i : Nat} (hi : i < 4) : (zu (zu (zu (zu (zu (zcp (zcp (zcp (zcp (zcp (zcp (zcp (zcp (zcp h 7 0 19 0 3) 8 0 20 0 3) 9 0 21 0 3) 10 0 22 0 4) 11 0 23 0 4) 12 0 24 0 4) 13 0 25 0 4) 14 0 26 0 4) 15 0 27 0 3) 18 9 (h 6 9)) 18 10 (h 6 10)) 18 11 (h 6 11)) 18 12 (h 6 12)) 18 13 (h 6 13)) 24 i = h 12 i := by
  rw [zu_c (by decide), zu_c (by decide), zu_c (by decide), zu_c (by decide), zu_c (by decide), zcp_c (by decide), zcp_c (by decide), zcp_c (by decide)]
  have q := zcp_i (h := (zcp (zcp (zcp (zcp (zcp h 7 0 19 0 3) 8 0 20 0 3) 9 0 21 0 3) 10 0 22 0 4) 11 0 23 0 4)) (a := 12) (sp := 0) (b := 24) (dp := 0) hi
  rw [Nat.zero_add] at q
  rw [q]
  rw [zcp_c (by decide), zcp_c (by decide), zcp_c (by decide), zcp_c (by decide), zcp_c (by decide)]
theorem copyRow18_6 {h : zM} {i : Nat} (hi : i < 4) : (zu (zu (zu (zu (zu (zcp (zcp (zcp (zcp (zcp (zcp (zcp (zcp (zcp h 7 0 19 0 3) 8 0 20 0 3) 9 0 21 0 3) 10 0 22 0 4) 11 0 23 0 4) 12 0 24 0 4) 13 0 25 0 4) 14 0 26 0 4) 15 0 27 0 3) 18 9 (h 6 9)) 18 10 (h 6 10)) 18 11 (h 6 11)) 18 12 (h 6 12)) 18 13 (h 6 13)) 25 i = h 13 i := by
  rw [zu_c (by decide), zu_c (by decide), zu_c (by decide), zu_c (by decide), zu_c (by decide), zcp_c (by decide), zcp_c (by decide)]
  have q := zcp_i (h := (zcp (zcp (zcp (zcp (zcp (zcp h 7 0 19 0 3) 8 0 20 0 3) 9 0 21 0 3) 10 0 22 0 4) 11 0 23 0 4) 12 0 24 0 4)) (a := 13) (sp := 0) (b := 25) (dp := 0) hi
  rw [Nat.zero_add] at q
  rw [q]
  rw [zcp_c (by decide), zcp_c (by decide), zcp_c (by decide), zcp_c (by decide), zcp_c (by decide), zcp_c (by decide)]
theorem copyRow18_7 {h : zM} {i : Nat} (hi : i < 4) : (zu (zu (zu (zu (zu (zcp (zcp (zcp (zcp (zcp (zcp (zcp (zcp (zcp h 7 0 19 0 3) 8 0 20 0 3) 9 0 21 0 3) 10 0 22 0 4) 11 0 23 0 4) 12 0 24 0 4) 13 0 25 0 4) 14 0 26 0 4) 15 0 27 0 3) 18 9 (h 6 9)) 18 10 (h 6 10)) 18 11 (h 6 11)) 18 12 (h 6 12)) 18 13 (h 6 13)) 26 i = h 14 i := by
  rw [zu_c (by decide), zu_c (by decide), zu_c (by decide), zu_c (by decide), zu_c (by decide), zcp_c (by decide)]
  have q := zcp_i (h := (zcp (zcp (zcp (zcp (zcp (zcp (zcp h 7 0 19 0 3) 8 0 20 0 3) 9 0 21 0 3) 10 0 22 0 4) 11 0 23 0 4) 12 0 24 0 4) 13 0 25 0 4)) (a := 14) (sp := 0) (b := 26) (dp := 0) hi
  rw [Nat.zero_add] at q
  rw [q]
  rw [zcp_c (by decide), zcp_c (by decide), zcp_c (by decide), zcp_c (by decide), zcp_c (by decide), zcp_c (by decide), zcp_c (by decide)]
theorem copyRow18_8 {h : zM} {i : Nat} (hi : i < 3) : (zu (zu (zu (zu (zu (zcp (zcp (zcp (zcp (zcp (zcp (zcp (zcp (zcp h 7 0 19 0 3) 8 0 20 0 3) 9 0 21 0 3) 10 0 22 0 4) 11 0 23 0 4) 12 0 24 0 4) 13 0 25 0 4) 14 0 26 0 4) 15 0 27 0 3) 18 9 (h 6 9)) 18 10 (h 6 10)) 18 11 (h 6 11)) 18 12 (h 6 12)) 18 13 (h 6 13)) 27 i = h 15 i := by
  rw [zu_c (by decide), zu_c (by decide), zu_c (by decide), zu_c (by decide), zu_c (by decide)]
  have q := zcp_i (h := (zcp (zcp (zcp (zcp (zcp (zcp (zcp (zcp h 7 0 19 0 3) 8 0 20 0 3) 9 0 21 0 3) 10 0 22 0 4) 11 0 23 0 4) 12 0 24 0 4) 13 0 25 0 4) 14 0 26 0 4)) (a := 15) (sp := 0) (b := 27) (dp := 0) hi
  rw [Nat.zero_add] at q
  rw [q]
  rw [zcp_c (by decide), zcp_c (by decide), zcp_c (by decide), zcp_c (by decide), zcp_c (by decide), zcp_c (by decide), zcp_c (by decide), zcp_c (by decide)]
/-! what stands ahead of a rest -/
def tA (T : aTn) (n law : Int) : Int := if n < 1 ∨ 3 < n then 2 else if 20000 < nA (aLaw T law) ^ (n.toNat * nB T) then 3 else 0
theorem nA_law {T : aTn} {law : Int} : nA (aLaw T law) = if law = 1 then nP T else nA T := by
  by_cases h : law = 1
  · subst h
    rfl
  · rw [if_neg h]
    unfold nA
    show (if (if law = 1 then 0 else tw T) = 1 then _ else _) = _
    rw [if_neg h]
    rfl
theorem nA_law_le {T : aTn} (hw : wT T) {law : Int} : nA (aLaw T law) ≤ nA T := by
  rw [nA_law]
  split
  · unfold nA
    split
    · have := hw.2.2.1
      exact Nat.le_mul_of_pos_left _ (by omega)
    · exact Nat.le_refl _
  · exact Nat.le_refl _
section TA
variable {d : Nat} {Q : zQ} {G : zG} {h : zM} {T : aTn} {n law : Int}
theorem c_ahead (hg : gS G) (kt : kT h 18 T) (hw : wT T) : zRunD ztb zmt' (d + 2) 104 [zR (some 0), zI n, zI law] G h Q ↔ Q (some (zI (tA T n law))) G h := by
  rw [r104]
  unfold tA
  have hb3 := hw.1
  have hp3 := hw.2.2.1
  by_cases c1 : n < 1
  · rw [if_pos (Or.inl c1)]
    simp only [e104_0, e104_1, e104_2, e104_5, e104_6, e104_7, e104_10, e104_11, e104_12, e104_13, e104_14, e104_17, e104_18, e104_21, e104_24, e104_27, e104_28, e104_31, e104_34, e104_35, e104_36, e104_38, e104_39, e104_43, e104_44, e104_45, e104_48, e104_51, e104_52, e104_55, e104_57, e104_58, e104_59, e104_61, e104_63, e104_66, e104_69, e104_70, e104_71, e104_74, e104_77, e104_78, zs0, zsI, zsL, zsR, ztl1, ztl0, zc0, zcI, zcL, zcR, true_and, and_true, true_implies, false_implies, implies_true, not_true_eq_false, not_false_eq_true, and_self, Int.toNat_natCast, Nat.reduceAdd, Nat.reduceLeDiff, Nat.reduceLT, forall_eq', Option.some.injEq, zarR, zarI, zarL, zle, zq0, zq1, zq2, zq3, zq4, zq5, zq6, zq8, zq9, zq10, zq20, zq7, zq12, zq24, zq40, zq41, zq48, zq100, zq120, zq123, zq480, zq492, zq700, zq729, zq2187, zq2916, zq8748, ne_eq, Int.reduceEq, Int.reduceLT, Int.reduceLE, Int.reduceToNat, Int.reduceMul, Int.reduceAdd, Int.reduceNeg, or_true, true_or, if_true, if_false, false_and, and_false, false_or, or_false, c1]
  · by_cases c2 : n ≤ 3
    · rw [if_neg (by omega)]
      obtain ⟨m, rfl⟩ := Int.eq_ofNat_of_zero_le (show 0 ≤ n by omega)
      rw [Int.toNat_natCast]
      have a1 := nA_b (aLaw_w hw law)
      have e9 := kt.1
      have wm : wr ((m : Int) * (nB T : Int)) = ((m * nB T : Nat) : Int) := by
        rw [← Int.natCast_mul]
        apply wr_id
        have : m * nB T ≤ 3 * 3 := Nat.mul_le_mul (by omega) (by omega)
        omega
      have lp : ∀ j i, i + j = m * nB T → nA (aLaw T law) ^ i ≤ 20000 → (zE 104 (d + 1) Q 41 [some (zR (some 0)), some (zI (m : Int)), some (zI law), some (zI (nA (aLaw T law) : Nat)), some (zI ((nA (aLaw T law) ^ i : Nat) : Int)), some (zI i)] [] G h (0, 0) ↔ Q (some (zI (if 20000 < nA (aLaw T law) ^ (m * nB T) then 3 else 0))) G h) := by
        intro j
        induction j with
        | zero =>
          intro i hi ha
          have hi' : i = m * nB T := by omega
          rw [← hi', if_neg (by omega)]
          rw [e104_41]
          simp only [e104_0, e104_1, e104_2, e104_5, e104_6, e104_7, e104_10, e104_11, e104_12, e104_13, e104_14, e104_17, e104_18, e104_21, e104_24, e104_27, e104_28, e104_31, e104_34, e104_35, e104_36, e104_38, e104_39, e104_43, e104_44, e104_45, e104_48, e104_51, e104_52, e104_55, e104_57, e104_58, e104_59, e104_61, e104_63, e104_66, e104_69, e104_70, e104_71, e104_74, e104_77, e104_78, zs0, zsI, zsL, zsR, ztl1, ztl0, zc0, zcI, zcL, zcR, true_and, and_true, true_implies, false_implies, implies_true, not_true_eq_false, not_false_eq_true, and_self, Int.toNat_natCast, Nat.reduceAdd, Nat.reduceLeDiff, Nat.reduceLT, forall_eq', Option.some.injEq, zarR, zarI, zarL, zle, zq0, zq1, zq2, zq3, zq4, zq5, zq6, zq8, zq9, zq10, zq20, zq7, zq12, zq24, zq40, zq41, zq48, zq100, zq120, zq123, zq480, zq492, zq700, zq729, zq2187, zq2916, zq8748, ne_eq, Int.reduceEq, Int.reduceLT, Int.reduceLE, Int.reduceToNat, Int.reduceMul, Int.reduceAdd, Int.reduceNeg, gk0 hg, gr0_0 hg, gr0_2 hg, gr0_3 hg, gr0_4 hg, gr0_5 hg, gr0_6 hg, gr0_7 hg, gr0_8 hg, gr0_9 hg, gr0_10 hg, gk18 hg, gr18_0 hg, gr18_1 hg, gr18_2 hg, gr18_3 hg, gr18_4 hg, gr18_5 hg, gr18_6 hg, gr18_7 hg, gr18_8 hg, or_true, true_or, if_true, if_false, false_and, and_false, false_or, or_false, e9, wm, ← hi', Int.le_refl]
        | succ j ih =>
          intro i hi ha
          have c : ¬ ((m * nB T : Nat) : Int) ≤ i := by omega
          have i9 : m * nB T ≤ 3 * 3 := Nat.mul_le_mul (by omega) (by omega)
          have hm9 : nA (aLaw T law) ^ i * nA (aLaw T law) ≤ 20000 * 9 := Nat.mul_le_mul ha a1.2
          have w : wr (((nA (aLaw T law) ^ i : Nat) : Int) * (nA (aLaw T law) : Int)) = ((nA (aLaw T law) ^ (i + 1) : Nat) : Int) := by
            rw [← Int.natCast_mul, Nat.pow_succ]
            exact wr_id (by omega)
          rw [e104_41]
          by_cases c3 : nA (aLaw T law) ^ (i + 1) ≤ 20000
          · have c3' : ((nA (aLaw T law) ^ (i + 1) : Nat) : Int) ≤ 20000 := by omega
            simp only [e104_0, e104_1, e104_2, e104_5, e104_6, e104_7, e104_10, e104_11, e104_12, e104_13, e104_14, e104_17, e104_18, e104_21, e104_24, e104_27, e104_28, e104_31, e104_34, e104_35, e104_36, e104_38, e104_39, e104_43, e104_44, e104_45, e104_48, e104_51, e104_52, e104_55, e104_57, e104_58, e104_59, e104_61, e104_63, e104_66, e104_69, e104_70, e104_71, e104_74, e104_77, e104_78, zs0, zsI, zsL, zsR, ztl1, ztl0, zc0, zcI, zcL, zcR, true_and, and_true, true_implies, false_implies, implies_true, not_true_eq_false, not_false_eq_true, and_self, Int.toNat_natCast, Nat.reduceAdd, Nat.reduceLeDiff, Nat.reduceLT, forall_eq', Option.some.injEq, zarR, zarI, zarL, zle, zq0, zq1, zq2, zq3, zq4, zq5, zq6, zq8, zq9, zq10, zq20, zq7, zq12, zq24, zq40, zq41, zq48, zq100, zq120, zq123, zq480, zq492, zq700, zq729, zq2187, zq2916, zq8748, ne_eq, Int.reduceEq, Int.reduceLT, Int.reduceLE, Int.reduceToNat, Int.reduceMul, Int.reduceAdd, Int.reduceNeg, gk0 hg, gr0_0 hg, gr0_2 hg, gr0_3 hg, gr0_4 hg, gr0_5 hg, gr0_6 hg, gr0_7 hg, gr0_8 hg, gr0_9 hg, gr0_10 hg, gk18 hg, gr18_0 hg, gr18_1 hg, gr18_2 hg, gr18_3 hg, gr18_4 hg, gr18_5 hg, gr18_6 hg, gr18_7 hg, gr18_8 hg, or_true, true_or, if_true, if_false, false_and, and_false, false_or, or_false, e9, wm, c, w, c3', wr_s (show i < 2147483647 by omega)]
            exact ih (i + 1) (by omega) c3
          · have c3' : ¬ ((nA (aLaw T law) ^ (i + 1) : Nat) : Int) ≤ 20000 := by omega
            have mono : nA (aLaw T law) ^ (i + 1) ≤ nA (aLaw T law) ^ (m * nB T) := Nat.pow_le_pow_right (by omega) (by omega)
            rw [if_pos (by omega)]
            simp only [e104_0, e104_1, e104_2, e104_5, e104_6, e104_7, e104_10, e104_11, e104_12, e104_13, e104_14, e104_17, e104_18, e104_21, e104_24, e104_27, e104_28, e104_31, e104_34, e104_35, e104_36, e104_38, e104_39, e104_43, e104_44, e104_45, e104_48, e104_51, e104_52, e104_55, e104_57, e104_58, e104_59, e104_61, e104_63, e104_66, e104_69, e104_70, e104_71, e104_74, e104_77, e104_78, zs0, zsI, zsL, zsR, ztl1, ztl0, zc0, zcI, zcL, zcR, true_and, and_true, true_implies, false_implies, implies_true, not_true_eq_false, not_false_eq_true, and_self, Int.toNat_natCast, Nat.reduceAdd, Nat.reduceLeDiff, Nat.reduceLT, forall_eq', Option.some.injEq, zarR, zarI, zarL, zle, zq0, zq1, zq2, zq3, zq4, zq5, zq6, zq8, zq9, zq10, zq20, zq7, zq12, zq24, zq40, zq41, zq48, zq100, zq120, zq123, zq480, zq492, zq700, zq729, zq2187, zq2916, zq8748, ne_eq, Int.reduceEq, Int.reduceLT, Int.reduceLE, Int.reduceToNat, Int.reduceMul, Int.reduceAdd, Int.reduceNeg, gk0 hg, gr0_0 hg, gr0_2 hg, gr0_3 hg, gr0_4 hg, gr0_5 hg, gr0_6 hg, gr0_7 hg, gr0_8 hg, gr0_9 hg, gr0_10 hg, gk18 hg, gr18_0 hg, gr18_1 hg, gr18_2 hg, gr18_3 hg, gr18_4 hg, gr18_5 hg, gr18_6 hg, gr18_7 hg, gr18_8 hg, or_true, true_or, if_true, if_false, false_and, and_false, false_or, or_false, e9, wm, c, w, c3']
      have l0 := lp (m * nB T) 0 (by omega) (by rw [Nat.pow_zero]; decide)
      rw [Nat.pow_zero] at l0
      simp only [zq0, zq1] at l0
      by_cases c4 : law = 1
      · have na : ((nA (aLaw T law) : Nat) : Int) = (nP T : Int) := by rw [nA_law, if_pos c4]
        have e11 := kt.2.2.1
        rw [na] at l0
        simp only [e104_0, e104_1, e104_2, e104_5, e104_6, e104_7, e104_10, e104_11, e104_12, e104_13, e104_14, e104_17, e104_18, e104_21, e104_24, e104_27, e104_28, e104_31, e104_34, e104_35, e104_36, e104_38, e104_39, e104_43, e104_44, e104_45, e104_48, e104_51, e104_52, e104_55, e104_57, e104_58, e104_59, e104_61, e104_63, e104_66, e104_69, e104_70, e104_71, e104_74, e104_77, e104_78, zs0, zsI, zsL, zsR, ztl1, ztl0, zc0, zcI, zcL, zcR, true_and, and_true, true_implies, false_implies, implies_true, not_true_eq_false, not_false_eq_true, and_self, Int.toNat_natCast, Nat.reduceAdd, Nat.reduceLeDiff, Nat.reduceLT, forall_eq', Option.some.injEq, zarR, zarI, zarL, zle, zq0, zq1, zq2, zq3, zq4, zq5, zq6, zq8, zq9, zq10, zq20, zq7, zq12, zq24, zq40, zq41, zq48, zq100, zq120, zq123, zq480, zq492, zq700, zq729, zq2187, zq2916, zq8748, ne_eq, Int.reduceEq, Int.reduceLT, Int.reduceLE, Int.reduceToNat, Int.reduceMul, Int.reduceAdd, Int.reduceNeg, gk0 hg, gr0_0 hg, gr0_2 hg, gr0_3 hg, gr0_4 hg, gr0_5 hg, gr0_6 hg, gr0_7 hg, gr0_8 hg, gr0_9 hg, gr0_10 hg, gk18 hg, gr18_0 hg, gr18_1 hg, gr18_2 hg, gr18_3 hg, gr18_4 hg, gr18_5 hg, gr18_6 hg, gr18_7 hg, gr18_8 hg, c1, c2, c4, e11]
        rw [c4] at l0
        exact l0
      · have na : ((nA (aLaw T law) : Nat) : Int) = (nA T : Int) := by rw [nA_law, if_neg c4]
        have ca := fun Q' => c_acts16 (d := d) (Q := Q') (h := h) (T := T) hg kt (by omega)
        rw [na] at l0
        simp only [e104_0, e104_1, e104_2, e104_5, e104_6, e104_7, e104_10, e104_11, e104_12, e104_13, e104_14, e104_17, e104_18, e104_21, e104_24, e104_27, e104_28, e104_31, e104_34, e104_35, e104_36, e104_38, e104_39, e104_43, e104_44, e104_45, e104_48, e104_51, e104_52, e104_55, e104_57, e104_58, e104_59, e104_61, e104_63, e104_66, e104_69, e104_70, e104_71, e104_74, e104_77, e104_78, zs0, zsI, zsL, zsR, ztl1, ztl0, zc0, zcI, zcL, zcR, true_and, and_true, true_implies, false_implies, implies_true, not_true_eq_false, not_false_eq_true, and_self, Int.toNat_natCast, Nat.reduceAdd, Nat.reduceLeDiff, Nat.reduceLT, forall_eq', Option.some.injEq, zarR, zarI, zarL, zle, zq0, zq1, zq2, zq3, zq4, zq5, zq6, zq8, zq9, zq10, zq20, zq7, zq12, zq24, zq40, zq41, zq48, zq100, zq120, zq123, zq480, zq492, zq700, zq729, zq2187, zq2916, zq8748, ne_eq, Int.reduceEq, Int.reduceLT, Int.reduceLE, Int.reduceToNat, Int.reduceMul, Int.reduceAdd, Int.reduceNeg, gk0 hg, gr0_0 hg, gr0_2 hg, gr0_3 hg, gr0_4 hg, gr0_5 hg, gr0_6 hg, gr0_7 hg, gr0_8 hg, gr0_9 hg, gr0_10 hg, gk18 hg, gr18_0 hg, gr18_1 hg, gr18_2 hg, gr18_3 hg, gr18_4 hg, gr18_5 hg, gr18_6 hg, gr18_7 hg, gr18_8 hg, c1, c2, c4, ca]
        exact l0
    · rw [if_pos (by omega)]
      simp only [e104_0, e104_1, e104_2, e104_5, e104_6, e104_7, e104_10, e104_11, e104_12, e104_13, e104_14, e104_17, e104_18, e104_21, e104_24, e104_27, e104_28, e104_31, e104_34, e104_35, e104_36, e104_38, e104_39, e104_43, e104_44, e104_45, e104_48, e104_51, e104_52, e104_55, e104_57, e104_58, e104_59, e104_61, e104_63, e104_66, e104_69, e104_70, e104_71, e104_74, e104_77, e104_78, zs0, zsI, zsL, zsR, ztl1, ztl0, zc0, zcI, zcL, zcR, true_and, and_true, true_implies, false_implies, implies_true, not_true_eq_false, not_false_eq_true, and_self, Int.toNat_natCast, Nat.reduceAdd, Nat.reduceLeDiff, Nat.reduceLT, forall_eq', Option.some.injEq, zarR, zarI, zarL, zle, zq0, zq1, zq2, zq3, zq4, zq5, zq6, zq8, zq9, zq10, zq20, zq7, zq12, zq24, zq40, zq41, zq48, zq100, zq120, zq123, zq480, zq492, zq700, zq729, zq2187, zq2916, zq8748, ne_eq, Int.reduceEq, Int.reduceLT, Int.reduceLE, Int.reduceToNat, Int.reduceMul, Int.reduceAdd, Int.reduceNeg, or_true, true_or, if_true, if_false, false_and, and_false, false_or, or_false, c1, c2]
theorem c_copy49 (hg : gS G) (kt : kT h 18 T) (hw : wT T) (K : ∀ h' : zM, (∀ c i, c < 49 ∨ 58 < c → h' c i = h c i) → kT h' 49 T → (∀ i, i < 3 → h' 58 i = h 27 i) → Q none G h') : zRunD ztb zmt' (d + 1) 46 [zR (some 49), zR (some 18)] G h Q := by
  rw [r46]
  have hb3 := hw.1
  have hs4 := hw.2.1
  have hp3 := hw.2.2.1
  simp only [e46_0, e46_1, e46_4, e46_5, e46_6, e46_9, e46_10, e46_11, e46_14, e46_15, e46_18, e46_19, e46_20, e46_23, e46_24, e46_25, e46_28, e46_29, e46_32, e46_33, e46_34, e46_37, e46_38, e46_39, e46_42, e46_43, e46_46, e46_47, e46_48, e46_51, e46_52, e46_53, e46_56, e46_57, e46_60, e46_61, e46_62, e46_65, e46_66, e46_67, e46_70, e46_71, e46_74, e46_75, e46_76, e46_79, e46_80, e46_81, e46_84, e46_85, e46_88, e46_89, e46_90, e46_93, e46_94, e46_95, e46_98, e46_99, e46_102, e46_103, e46_104, e46_107, e46_108, e46_109, e46_112, e46_113, e46_116, e46_117, e46_118, e46_121, e46_122, e46_123, e46_126, e46_127, e46_128, e46_131, e46_134, e46_135, e46_136, e46_139, e46_142, e46_143, e46_144, e46_147, e46_150, e46_151, e46_152, e46_155, e46_158, e46_159, e46_160, e46_163, e46_166, zs0, zsI, zsL, zsR, ztl1, ztl0, zc0, zcI, zcL, zcR, true_and, and_true, true_implies, false_implies, implies_true, not_true_eq_false, not_false_eq_true, and_self, Int.toNat_natCast, Nat.reduceAdd, Nat.reduceLeDiff, Nat.reduceLT, forall_eq', Option.some.injEq, zarR, zarI, zarL, zle, zq0, zq1, zq2, zq3, zq4, zq5, zq6, zq8, zq9, zq10, zq20, zq7, zq12, zq24, zq40, zq41, zq48, zq100, zq120, zq123, zq480, zq492, zq700, zq729, zq2187, zq2916, zq8748, ne_eq, Int.reduceEq, Int.reduceLT, Int.reduceLE, Int.reduceToNat, Int.reduceMul, Int.reduceAdd, Int.reduceNeg, gk49 hg, gr49_0 hg, gr49_1 hg, gr49_2 hg, gr49_3 hg, gr49_4 hg, gr49_5 hg, gr49_6 hg, gr49_7 hg, gr49_8 hg, gk50 hg, gl50 hg, gk51 hg, gl51 hg, gk52 hg, gl52 hg, gk53 hg, gl53 hg, gk54 hg, gl54 hg, gk55 hg, gl55 hg, gk56 hg, gl56 hg, gk57 hg, gl57 hg, gk58 hg, gl58 hg, gk18 hg, gr18_0 hg, gr18_1 hg, gr18_2 hg, gr18_3 hg, gr18_4 hg, gr18_5 hg, gr18_6 hg, gr18_7 hg, gr18_8 hg, gk19 hg, gl19 hg, gk20 hg, gl20 hg, gk21 hg, gl21 hg, gk22 hg, gl22 hg, gk23 hg, gl23 hg, gk24 hg, gl24 hg, gk25 hg, gl25 hg, gk26 hg, gl26 hg, gk27 hg, gl27 hg, or_true, true_or, if_true, if_false, false_and, and_false, false_or, or_false, zcp_c (show ¬ 18 = 50 by decide), zcp_c (show ¬ 18 = 51 by decide), zcp_c (show ¬ 18 = 52 by decide), zcp_c (show ¬ 18 = 53 by decide), zcp_c (show ¬ 18 = 54 by decide), zcp_c (show ¬ 18 = 55 by decide), zcp_c (show ¬ 18 = 56 by decide), zcp_c (show ¬ 18 = 57 by decide), zcp_c (show ¬ 18 = 58 by decide), zu_c (show ¬ 18 = 49 by decide)]
  obtain ⟨c1, c2, c3, c4, c5, c6, c7, c8, c9, c10, c11, c12, c13, c14⟩ := kt
  apply K
  · intro c i q
    rw [zu_c (by omega), zu_c (by omega), zu_c (by omega), zu_c (by omega), zu_c (by omega), zcp_c (by omega), zcp_c (by omega), zcp_c (by omega), zcp_c (by omega), zcp_c (by omega), zcp_c (by omega), zcp_c (by omega), zcp_c (by omega), zcp_c (by omega)]
  · refine ⟨?_, ?_, ?_, ?_, ?_, ?_, ?_, ?_, ?_, ?_, ?_, ?_, ?_, ?_⟩
    · rw [zu_i (by decide), zu_i (by decide), zu_i (by decide), zu_i (by decide), zu_at]; exact c1
    · rw [zu_i (by decide), zu_i (by decide), zu_i (by decide), zu_at]; exact c2
    · rw [zu_i (by decide), zu_i (by decide), zu_at]; exact c3
    · rw [zu_i (by decide), zu_at]; exact c4
    · rw [zu_at]; exact c5
    · intro i hi
      have hi' : i < 3 := by omega
      exact (copyRow49_0 hi').trans (c6 i hi)
    · intro i hi
      have hi' : i < 3 := by omega
      exact (copyRow49_1 hi').trans (c7 i hi)
    · intro i hi
      have hi' : i < 3 := by omega
      exact (copyRow49_2 hi').trans (c8 i hi)
    · intro i hi
      have hi' : i < 4 := by omega
      exact (copyRow49_3 hi').trans (c9 i hi)
    · intro i hi
      have hi' : i < 4 := by omega
      exact (copyRow49_4 hi').trans (c10 i hi)
    · intro i hi
      have hi' : i < 4 := by omega
      exact (copyRow49_5 hi').trans (c11 i hi)
    · intro i hi
      have hi' : i < 4 := by omega
      exact (copyRow49_6 hi').trans (c12 i hi)
    · intro i hi
      have hi' : i < 4 := by omega
      exact (copyRow49_7 hi').trans (c13 i hi)
    · intro i hi
      have hi' : i < 3 := by omega
      exact (copyRow49_8 hi').trans (c14 i hi)
  · intro i hi
    exact copyRow49_8 hi
theorem c_copy18 (hg : gS G) (kt : kT h 6 T) (hw : wT T) (K : ∀ h' : zM, (∀ c i, c < 18 ∨ 27 < c → h' c i = h c i) → kT h' 18 T → (∀ i, i < 3 → h' 27 i = h 15 i) → Q none G h') : zRunD ztb zmt' (d + 1) 46 [zR (some 18), zR (some 6)] G h Q := by
  rw [r46]
  have hb3 := hw.1
  have hs4 := hw.2.1
  have hp3 := hw.2.2.1
  simp only [e46_0, e46_1, e46_4, e46_5, e46_6, e46_9, e46_10, e46_11, e46_14, e46_15, e46_18, e46_19, e46_20, e46_23, e46_24, e46_25, e46_28, e46_29, e46_32, e46_33, e46_34, e46_37, e46_38, e46_39, e46_42, e46_43, e46_46, e46_47, e46_48, e46_51, e46_52, e46_53, e46_56, e46_57, e46_60, e46_61, e46_62, e46_65, e46_66, e46_67, e46_70, e46_71, e46_74, e46_75, e46_76, e46_79, e46_80, e46_81, e46_84, e46_85, e46_88, e46_89, e46_90, e46_93, e46_94, e46_95, e46_98, e46_99, e46_102, e46_103, e46_104, e46_107, e46_108, e46_109, e46_112, e46_113, e46_116, e46_117, e46_118, e46_121, e46_122, e46_123, e46_126, e46_127, e46_128, e46_131, e46_134, e46_135, e46_136, e46_139, e46_142, e46_143, e46_144, e46_147, e46_150, e46_151, e46_152, e46_155, e46_158, e46_159, e46_160, e46_163, e46_166, zs0, zsI, zsL, zsR, ztl1, ztl0, zc0, zcI, zcL, zcR, true_and, and_true, true_implies, false_implies, implies_true, not_true_eq_false, not_false_eq_true, and_self, Int.toNat_natCast, Nat.reduceAdd, Nat.reduceLeDiff, Nat.reduceLT, forall_eq', Option.some.injEq, zarR, zarI, zarL, zle, zq0, zq1, zq2, zq3, zq4, zq5, zq6, zq8, zq9, zq10, zq20, zq7, zq12, zq24, zq40, zq41, zq48, zq100, zq120, zq123, zq480, zq492, zq700, zq729, zq2187, zq2916, zq8748, ne_eq, Int.reduceEq, Int.reduceLT, Int.reduceLE, Int.reduceToNat, Int.reduceMul, Int.reduceAdd, Int.reduceNeg, gk18 hg, gr18_0 hg, gr18_1 hg, gr18_2 hg, gr18_3 hg, gr18_4 hg, gr18_5 hg, gr18_6 hg, gr18_7 hg, gr18_8 hg, gk19 hg, gl19 hg, gk20 hg, gl20 hg, gk21 hg, gl21 hg, gk22 hg, gl22 hg, gk23 hg, gl23 hg, gk24 hg, gl24 hg, gk25 hg, gl25 hg, gk26 hg, gl26 hg, gk27 hg, gl27 hg, gk6 hg, gr6_0 hg, gr6_1 hg, gr6_2 hg, gr6_3 hg, gr6_4 hg, gr6_5 hg, gr6_6 hg, gr6_7 hg, gr6_8 hg, gk7 hg, gl7 hg, gk8 hg, gl8 hg, gk9 hg, gl9 hg, gk10 hg, gl10 hg, gk11 hg, gl11 hg, gk12 hg, gl12 hg, gk13 hg, gl13 hg, gk14 hg, gl14 hg, gk15 hg, gl15 hg, or_true, true_or, if_true, if_false, false_and, and_false, false_or, or_false, zcp_c (show ¬ 6 = 19 by decide), zcp_c (show ¬ 6 = 20 by decide), zcp_c (show ¬ 6 = 21 by decide), zcp_c (show ¬ 6 = 22 by decide), zcp_c (show ¬ 6 = 23 by decide), zcp_c (show ¬ 6 = 24 by decide), zcp_c (show ¬ 6 = 25 by decide), zcp_c (show ¬ 6 = 26 by decide), zcp_c (show ¬ 6 = 27 by decide), zu_c (show ¬ 6 = 18 by decide)]
  obtain ⟨c1, c2, c3, c4, c5, c6, c7, c8, c9, c10, c11, c12, c13, c14⟩ := kt
  apply K
  · intro c i q
    rw [zu_c (by omega), zu_c (by omega), zu_c (by omega), zu_c (by omega), zu_c (by omega), zcp_c (by omega), zcp_c (by omega), zcp_c (by omega), zcp_c (by omega), zcp_c (by omega), zcp_c (by omega), zcp_c (by omega), zcp_c (by omega), zcp_c (by omega)]
  · refine ⟨?_, ?_, ?_, ?_, ?_, ?_, ?_, ?_, ?_, ?_, ?_, ?_, ?_, ?_⟩
    · rw [zu_i (by decide), zu_i (by decide), zu_i (by decide), zu_i (by decide), zu_at]; exact c1
    · rw [zu_i (by decide), zu_i (by decide), zu_i (by decide), zu_at]; exact c2
    · rw [zu_i (by decide), zu_i (by decide), zu_at]; exact c3
    · rw [zu_i (by decide), zu_at]; exact c4
    · rw [zu_at]; exact c5
    · intro i hi
      have hi' : i < 3 := by omega
      exact (copyRow18_0 hi').trans (c6 i hi)
    · intro i hi
      have hi' : i < 3 := by omega
      exact (copyRow18_1 hi').trans (c7 i hi)
    · intro i hi
      have hi' : i < 3 := by omega
      exact (copyRow18_2 hi').trans (c8 i hi)
    · intro i hi
      have hi' : i < 4 := by omega
      exact (copyRow18_3 hi').trans (c9 i hi)
    · intro i hi
      have hi' : i < 4 := by omega
      exact (copyRow18_4 hi').trans (c10 i hi)
    · intro i hi
      have hi' : i < 4 := by omega
      exact (copyRow18_5 hi').trans (c11 i hi)
    · intro i hi
      have hi' : i < 4 := by omega
      exact (copyRow18_6 hi').trans (c12 i hi)
    · intro i hi
      have hi' : i < 4 := by omega
      exact (copyRow18_7 hi').trans (c13 i hi)
    · intro i hi
      have hi' : i < 3 := by omega
      exact (copyRow18_8 hi').trans (c14 i hi)
  · intro i hi
    exact copyRow18_8 hi
end TA
