
/-! ===== the constructors, run ===== -/
def HF : List Row := [(0, 9, [some 1, some 2, some 3, some 8, some 15, some 20, some 21, some 34, some 47, some 76, some 90, some 110, none, none, none, none], (List.replicate 16 0), [0, 0, 0, 0, 0, 0, 0, 0, 0, 0, 0, 0, 0, 0, 0, 1]),
  (3, 6, [some 111, some 113, some 115, some 117, some 119, some 121], [], []),
  (3, 4, [some 123, some 125, some 127, some 129], [], []),
  (0, 6, [some 4, some 6, none, none, none], [0, 0, 0, 0, 0], [0, 0, 0, 0, 0]),
  (0, 3, [some 5, none], [0, 7], [0, 0]),
  zrow 1 7 0 7 0,
  (0, 3, [some 7, none], [0, 7], [0, 0]),
  zrow 1 7 0 7 0,
  (0, 0, [some 9, some 11, some 13, none, none, none], [0, 0, 0, 0, 0, 0], [0, 0, 0, 0, 0, 0]),
  (0, 3, [some 10, none], [0, 7], [0, 0]),
  zrow 1 7 0 7 0,
  (0, 3, [some 12, none], [0, 7], [0, 0]),
  zrow 1 7 0 7 0,
  (0, 3, [some 14, none], [0, 7], [0, 0]),
  zrow 1 7 0 7 0,
  (0, 2, [some 16, some 18, none, none, none, none, none], [0, 0, 0, 0, 0, 0, 0], [0, 0, 0, 0, 0, 0, 0]),
  (0, 3, [some 17, none], [0, 7], [0, 0]),
  zrow 1 7 0 7 0,
  (0, 4, [some 19], [0], [0]),
  zrow 2 7 0 0 7,
  (4, 3, [some 131, some 136, some 141], [], []),
  (0, 7, [some 22, some 24, some 26, some 28, some 30, some 32, none, none, none], (List.replicate 9 0), (List.replicate 9 0)),
  (0, 3, [some 23, none], [0, 7], [0, 0]),
  zrow 1 7 0 7 0,
  (0, 3, [some 25, none], [0, 7], [0, 0]),
  zrow 1 7 0 7 0,
  (0, 3, [some 27, none], [0, 7], [0, 0]),
  zrow 1 7 0 7 0,
  (0, 4, [some 29], [0], [0]),
  zrow 2 7 0 0 7,
  (0, 4, [some 31], [0], [0]),
  zrow 2 8 0 0 8,
  (0, 3, [some 33, none], [0, 8], [0, 0]),
  zrow 1 8 0 8 0,
  (0, 7, [some 35, some 37, some 39, some 41, some 43, some 45, none, none, none], (List.replicate 9 0), (List.replicate 9 0)),
  (0, 3, [some 36, none], [0, 7], [0, 0]),
  zrow 1 7 0 7 0,
  (0, 3, [some 38, none], [0, 7], [0, 0]),
  zrow 1 7 0 7 0,
  (0, 3, [some 40, none], [0, 7], [0, 0]),
  zrow 1 7 0 7 0,
  (0, 4, [some 42], [0], [0]),
  zrow 2 7 0 0 7,
  (0, 4, [some 44], [0], [0]),
  zrow 2 8 0 0 8,
  (0, 3, [some 46, none], [0, 8], [0, 0]),
  zrow 1 8 0 8 0,
  (0, 5, [some 48, some 61, some 74], [0, 0, 0], [0, 0, 0]),
  (0, 7, [some 49, some 51, some 53, some 55, some 57, some 59, none, none, none], (List.replicate 9 0), (List.replicate 9 0)),
  (0, 3, [some 50, none], [0, 7], [0, 0]),
  zrow 1 7 0 7 0,
  (0, 3, [some 52, none], [0, 7], [0, 0]),
  zrow 1 7 0 7 0,
  (0, 3, [some 54, none], [0, 7], [0, 0]),
  zrow 1 7 0 7 0,
  (0, 4, [some 56], [0], [0]),
  zrow 2 7 0 0 7,
  (0, 4, [some 58], [0], [0]),
  zrow 2 8 0 0 8,
  (0, 3, [some 60, none], [0, 8], [0, 0]),
  zrow 1 8 0 8 0,
  (0, 7, [some 62, some 64, some 66, some 68, some 70, some 72, none, none, none], (List.replicate 9 0), (List.replicate 9 0)),
  (0, 3, [some 63, none], [0, 7], [0, 0]),
  zrow 1 7 0 7 0,
  (0, 3, [some 65, none], [0, 7], [0, 0]),
  zrow 1 7 0 7 0,
  (0, 3, [some 67, none], [0, 7], [0, 0]),
  zrow 1 7 0 7 0,
  (0, 4, [some 69], [0], [0]),
  zrow 2 7 0 0 7,
  (0, 4, [some 71], [0], [0]),
  zrow 2 8 0 0 8,
  (0, 3, [some 73, none], [0, 8], [0, 0]),
  zrow 1 8 0 8 0,
  (0, 3, [some 75, none], [0, 7], [0, 0]),
  zrow 1 7 0 7 0,
  (0, 8, [some 77, none, none, none, none, none], [0, 0, 0, 0, 0, 0], [0, 0, 0, 0, 0, 0]),
  (0, 7, [some 78, some 80, some 82, some 84, some 86, some 88, none, none, none], (List.replicate 9 0), (List.replicate 9 0)),
  (0, 3, [some 79, none], [0, 7], [0, 0]),
  zrow 1 7 0 7 0,
  (0, 3, [some 81, none], [0, 7], [0, 0]),
  zrow 1 7 0 7 0,
  (0, 3, [some 83, none], [0, 7], [0, 0]),
  zrow 1 7 0 7 0,
  (0, 4, [some 85], [0], [0]),
  zrow 2 7 0 0 7,
  (0, 4, [some 87], [0], [0]),
  zrow 2 8 0 0 8,
  (0, 3, [some 89, none], [0, 8], [0, 0]),
  zrow 1 8 0 8 0,
  (0, 1, [some 91, some 104, some 106, some 108, none, none], [0, 0, 0, 0, 0, 0], [0, 0, 0, 0, 0, 0]),
  (0, 7, [some 92, some 94, some 96, some 98, some 100, some 102, none, none, none], (List.replicate 9 0), (List.replicate 9 0)),
  (0, 3, [some 93, none], [0, 7], [0, 0]),
  zrow 1 7 0 7 0,
  (0, 3, [some 95, none], [0, 7], [0, 0]),
  zrow 1 7 0 7 0,
  (0, 3, [some 97, none], [0, 7], [0, 0]),
  zrow 1 7 0 7 0,
  (0, 4, [some 99], [0], [0]),
  zrow 2 7 0 0 7,
  (0, 4, [some 101], [0], [0]),
  zrow 2 8 0 0 8,
  (0, 3, [some 103, none], [0, 8], [0, 0]),
  zrow 1 8 0 8 0,
  (0, 3, [some 105, none], [0, 7], [0, 0]),
  zrow 1 7 0 7 0,
  (0, 3, [some 107, none], [0, 4], [0, 0]),
  zrow 1 4 0 4 0,
  (0, 3, [some 109, none], [0, 7], [0, 0]),
  zrow 1 7 0 7 0,
  zrow 1 6 0 6 0,
  (0, 3, [some 112, none], [0, (-1)], [0, 0]),
  zrow 1 60 0 60 0,
  (0, 3, [some 114, none], [0, (-1)], [0, 0]),
  zrow 1 60 0 60 0,
  (0, 3, [some 116, none], [0, (-1)], [0, 0]),
  zrow 1 60 0 60 0,
  (0, 3, [some 118, none], [0, (-1)], [0, 0]),
  zrow 1 60 0 60 0,
  (0, 3, [some 120, none], [0, (-1)], [0, 0]),
  zrow 1 60 0 60 0,
  (0, 3, [some 122, none], [0, (-1)], [0, 0]),
  zrow 1 60 0 60 0,
  (0, 3, [some 124, none], [0, (-1)], [0, 0]),
  zrow 1 60 0 60 0,
  (0, 3, [some 126, none], [0, (-1)], [0, 0]),
  zrow 1 60 0 60 0,
  (0, 3, [some 128, none], [0, (-1)], [0, 0]),
  zrow 1 60 0 60 0,
  (0, 3, [some 130, none], [0, (-1)], [0, 0]),
  zrow 1 60 0 60 0,
  (0, 2, [some 132, some 134, none, none, none, none, none], [0, 0, 0, 0, 0, 0, 0], [0, 0, 0, 0, 0, 0, 0]),
  (0, 3, [some 133, none], [0, 7], [0, 0]),
  zrow 1 7 0 7 0,
  (0, 4, [some 135], [0], [0]),
  zrow 2 7 0 0 7,
  (0, 2, [some 137, some 139, none, none, none, none, none], [0, 0, 0, 0, 0, 0, 0], [0, 0, 0, 0, 0, 0, 0]),
  (0, 3, [some 138, none], [0, 7], [0, 0]),
  zrow 1 7 0 7 0,
  (0, 4, [some 140], [0], [0]),
  zrow 2 7 0 0 7,
  (0, 2, [some 142, some 144, none, none, none, none, none], [0, 0, 0, 0, 0, 0, 0], [0, 0, 0, 0, 0, 0, 0]),
  (0, 3, [some 143, none], [0, 7], [0, 0]),
  zrow 1 7 0 7 0,
  (0, 4, [some 145], [0], [0]),
  zrow 2 7 0 0 7,
  (0, 10, [none, some 147, none, none, none, some 148, some 149, some 150, some 151, none, none, none, none, none, none, some 152, some 153, none, none, none, some 154, some 155, some 156, none, none, some 157, some 158, some 159, none, none, none, some 160, none, some 161, some 162, none, none, some 163, some 164, some 165, some 166, some 167, some 168, some 169, some 170, some 171, some 172, none, none, none, none, some 173, some 174], (List.replicate 53 0), [0, 0, 0, 0, 1, 0, 0, 0, 0, 0, 0, 0, 0, 0, 0, 0, 0, 0, 0, 0, 0, 0, 0, 0, 1, 0, 0, 0, 0, 1, 0, 0, 0, 0, 0, 0, 1, 0, 0, 0, 0, 0, 0, 0, 0, 0, 0, 0, 0, 0, 0, 0, 0]),
  zrow 1 6 0 6 0,
  (1, 6, [], [(-1), (-1), (-1), (-1), (-1), (-1)], []),
  zrow 1 360 0 360 0,
  (1, 4, [], [(-1), (-1), (-1), (-1)], []),
  zrow 1 240 0 240 0,
  zrow 1 7 0 7 0,
  zrow 1 7 0 7 0,
  zrow 1 7 0 7 0,
  zrow 1 7 0 7 0,
  zrow 1 7 0 7 0,
  zrow 1 7 0 7 0,
  zrow 2 7 0 0 7,
  zrow 2 7 0 0 7,
  zrow 1 7 0 7 0,
  zrow 2 7 0 0 7,
  zrow 2 7 0 0 7,
  (1, 3, [], [(-1), (-1), (-1)], []),
  zrow 1 3 0 3 0,
  zrow 1 21 0 21 0,
  zrow 2 21 0 0 21,
  zrow 2 21 0 0 21,
  zrow 2 3 0 0 3,
  zrow 2 3 0 0 3,
  zrow 1 7 0 7 0,
  zrow 2 7 0 0 7,
  zrow 2 7 0 0 7,
  zrow 1 49 0 49 0,
  zrow 1 7 0 7 0]

def hp_0 : List Row := (HF.take 1).set 0 (zrow 0 9 16 16 16)
def hp_1 : List Row := ((HF.take 2).set 0 (zrow 0 9 16 16 16)).set 1 (zrow 3 6 6 0 0)
def hp_2 : List Row := ((HF.take 2).set 0 ((0, 9, [some 1, none, none, none, none, none, none, none, none, none, none, none, none, none, none, none], (List.replicate 16 0), (List.replicate 16 0)))).set 1 (zrow 3 6 6 0 0)
def hp_3 : List Row := (((HF.take 3).set 0 ((0, 9, [some 1, none, none, none, none, none, none, none, none, none, none, none, none, none, none, none], (List.replicate 16 0), (List.replicate 16 0)))).set 1 (zrow 3 6 6 0 0)).set 2 (zrow 3 4 4 0 0)
def hp_4 : List Row := (((HF.take 3).set 0 ((0, 9, [some 1, some 2, none, none, none, none, none, none, none, none, none, none, none, none, none, none], (List.replicate 16 0), (List.replicate 16 0)))).set 1 (zrow 3 6 6 0 0)).set 2 (zrow 3 4 4 0 0)
def hp_5 : List Row := ((((HF.take 4).set 0 ((0, 9, [some 1, some 2, none, none, none, none, none, none, none, none, none, none, none, none, none, none], (List.replicate 16 0), (List.replicate 16 0)))).set 1 (zrow 3 6 6 0 0)).set 2 (zrow 3 4 4 0 0)).set 3 (zrow 0 6 5 5 5)
def hp_6 : List Row := (((((HF.take 5).set 0 ((0, 9, [some 1, some 2, none, none, none, none, none, none, none, none, none, none, none, none, none, none], (List.replicate 16 0), (List.replicate 16 0)))).set 1 (zrow 3 6 6 0 0)).set 2 (zrow 3 4 4 0 0)).set 3 (zrow 0 6 5 5 5)).set 4 (zrow 0 3 2 2 2)
def hp_7 : List Row := ((((HF.take 6).set 0 ((0, 9, [some 1, some 2, none, none, none, none, none, none, none, none, none, none, none, none, none, none], (List.replicate 16 0), (List.replicate 16 0)))).set 1 (zrow 3 6 6 0 0)).set 2 (zrow 3 4 4 0 0)).set 3 (zrow 0 6 5 5 5)
def hp_8 : List Row := ((((HF.take 6).set 0 ((0, 9, [some 1, some 2, none, none, none, none, none, none, none, none, none, none, none, none, none, none], (List.replicate 16 0), (List.replicate 16 0)))).set 1 (zrow 3 6 6 0 0)).set 2 (zrow 3 4 4 0 0)).set 3 ((0, 6, [some 4, none, none, none, none], [0, 0, 0, 0, 0], [0, 0, 0, 0, 0]))
def hp_9 : List Row := (((((HF.take 7).set 0 ((0, 9, [some 1, some 2, none, none, none, none, none, none, none, none, none, none, none, none, none, none], (List.replicate 16 0), (List.replicate 16 0)))).set 1 (zrow 3 6 6 0 0)).set 2 (zrow 3 4 4 0 0)).set 3 ((0, 6, [some 4, none, none, none, none], [0, 0, 0, 0, 0], [0, 0, 0, 0, 0]))).set 6 (zrow 0 3 2 2 2)
def hp_10 : List Row := ((((HF.take 8).set 0 ((0, 9, [some 1, some 2, none, none, none, none, none, none, none, none, none, none, none, none, none, none], (List.replicate 16 0), (List.replicate 16 0)))).set 1 (zrow 3 6 6 0 0)).set 2 (zrow 3 4 4 0 0)).set 3 ((0, 6, [some 4, none, none, none, none], [0, 0, 0, 0, 0], [0, 0, 0, 0, 0]))
def hp_11 : List Row := (((HF.take 8).set 0 ((0, 9, [some 1, some 2, none, none, none, none, none, none, none, none, none, none, none, none, none, none], (List.replicate 16 0), (List.replicate 16 0)))).set 1 (zrow 3 6 6 0 0)).set 2 (zrow 3 4 4 0 0)
def hp_12 : List Row := (((HF.take 8).set 0 ((0, 9, [some 1, some 2, some 3, none, none, none, none, none, none, none, none, none, none, none, none, none], (List.replicate 16 0), (List.replicate 16 0)))).set 1 (zrow 3 6 6 0 0)).set 2 (zrow 3 4 4 0 0)
def hp_13 : List Row := ((((HF.take 9).set 0 ((0, 9, [some 1, some 2, some 3, none, none, none, none, none, none, none, none, none, none, none, none, none], (List.replicate 16 0), (List.replicate 16 0)))).set 1 (zrow 3 6 6 0 0)).set 2 (zrow 3 4 4 0 0)).set 8 (zrow 0 0 6 6 6)
def hp_14 : List Row := (((((HF.take 10).set 0 ((0, 9, [some 1, some 2, some 3, none, none, none, none, none, none, none, none, none, none, none, none, none], (List.replicate 16 0), (List.replicate 16 0)))).set 1 (zrow 3 6 6 0 0)).set 2 (zrow 3 4 4 0 0)).set 8 (zrow 0 0 6 6 6)).set 9 (zrow 0 3 2 2 2)
def hp_15 : List Row := ((((HF.take 11).set 0 ((0, 9, [some 1, some 2, some 3, none, none, none, none, none, none, none, none, none, none, none, none, none], (List.replicate 16 0), (List.replicate 16 0)))).set 1 (zrow 3 6 6 0 0)).set 2 (zrow 3 4 4 0 0)).set 8 (zrow 0 0 6 6 6)
def hp_16 : List Row := ((((HF.take 11).set 0 ((0, 9, [some 1, some 2, some 3, none, none, none, none, none, none, none, none, none, none, none, none, none], (List.replicate 16 0), (List.replicate 16 0)))).set 1 (zrow 3 6 6 0 0)).set 2 (zrow 3 4 4 0 0)).set 8 ((0, 0, [some 9, none, none, none, none, none], [0, 0, 0, 0, 0, 0], [0, 0, 0, 0, 0, 0]))
def hp_17 : List Row := (((((HF.take 12).set 0 ((0, 9, [some 1, some 2, some 3, none, none, none, none, none, none, none, none, none, none, none, none, none], (List.replicate 16 0), (List.replicate 16 0)))).set 1 (zrow 3 6 6 0 0)).set 2 (zrow 3 4 4 0 0)).set 8 ((0, 0, [some 9, none, none, none, none, none], [0, 0, 0, 0, 0, 0], [0, 0, 0, 0, 0, 0]))).set 11 (zrow 0 3 2 2 2)
def hp_18 : List Row := ((((HF.take 13).set 0 ((0, 9, [some 1, some 2, some 3, none, none, none, none, none, none, none, none, none, none, none, none, none], (List.replicate 16 0), (List.replicate 16 0)))).set 1 (zrow 3 6 6 0 0)).set 2 (zrow 3 4 4 0 0)).set 8 ((0, 0, [some 9, none, none, none, none, none], [0, 0, 0, 0, 0, 0], [0, 0, 0, 0, 0, 0]))
def hp_19 : List Row := ((((HF.take 13).set 0 ((0, 9, [some 1, some 2, some 3, none, none, none, none, none, none, none, none, none, none, none, none, none], (List.replicate 16 0), (List.replicate 16 0)))).set 1 (zrow 3 6 6 0 0)).set 2 (zrow 3 4 4 0 0)).set 8 ((0, 0, [some 9, some 11, none, none, none, none], [0, 0, 0, 0, 0, 0], [0, 0, 0, 0, 0, 0]))
def hp_20 : List Row := (((((HF.take 14).set 0 ((0, 9, [some 1, some 2, some 3, none, none, none, none, none, none, none, none, none, none, none, none, none], (List.replicate 16 0), (List.replicate 16 0)))).set 1 (zrow 3 6 6 0 0)).set 2 (zrow 3 4 4 0 0)).set 8 ((0, 0, [some 9, some 11, none, none, none, none], [0, 0, 0, 0, 0, 0], [0, 0, 0, 0, 0, 0]))).set 13 (zrow 0 3 2 2 2)
def hp_21 : List Row := ((((HF.take 15).set 0 ((0, 9, [some 1, some 2, some 3, none, none, none, none, none, none, none, none, none, none, none, none, none], (List.replicate 16 0), (List.replicate 16 0)))).set 1 (zrow 3 6 6 0 0)).set 2 (zrow 3 4 4 0 0)).set 8 ((0, 0, [some 9, some 11, none, none, none, none], [0, 0, 0, 0, 0, 0], [0, 0, 0, 0, 0, 0]))
def hp_22 : List Row := (((HF.take 15).set 0 ((0, 9, [some 1, some 2, some 3, none, none, none, none, none, none, none, none, none, none, none, none, none], (List.replicate 16 0), (List.replicate 16 0)))).set 1 (zrow 3 6 6 0 0)).set 2 (zrow 3 4 4 0 0)
def hp_23 : List Row := (((HF.take 15).set 0 ((0, 9, [some 1, some 2, some 3, some 8, none, none, none, none, none, none, none, none, none, none, none, none], (List.replicate 16 0), (List.replicate 16 0)))).set 1 (zrow 3 6 6 0 0)).set 2 (zrow 3 4 4 0 0)
def hp_24 : List Row := ((((HF.take 16).set 0 ((0, 9, [some 1, some 2, some 3, some 8, none, none, none, none, none, none, none, none, none, none, none, none], (List.replicate 16 0), (List.replicate 16 0)))).set 1 (zrow 3 6 6 0 0)).set 2 (zrow 3 4 4 0 0)).set 15 (zrow 0 2 7 7 7)
def hp_25 : List Row := (((((HF.take 17).set 0 ((0, 9, [some 1, some 2, some 3, some 8, none, none, none, none, none, none, none, none, none, none, none, none], (List.replicate 16 0), (List.replicate 16 0)))).set 1 (zrow 3 6 6 0 0)).set 2 (zrow 3 4 4 0 0)).set 15 (zrow 0 2 7 7 7)).set 16 (zrow 0 3 2 2 2)
def hp_26 : List Row := ((((HF.take 18).set 0 ((0, 9, [some 1, some 2, some 3, some 8, none, none, none, none, none, none, none, none, none, none, none, none], (List.replicate 16 0), (List.replicate 16 0)))).set 1 (zrow 3 6 6 0 0)).set 2 (zrow 3 4 4 0 0)).set 15 (zrow 0 2 7 7 7)
def hp_27 : List Row := ((((HF.take 18).set 0 ((0, 9, [some 1, some 2, some 3, some 8, none, none, none, none, none, none, none, none, none, none, none, none], (List.replicate 16 0), (List.replicate 16 0)))).set 1 (zrow 3 6 6 0 0)).set 2 (zrow 3 4 4 0 0)).set 15 ((0, 2, [some 16, none, none, none, none, none, none], [0, 0, 0, 0, 0, 0, 0], [0, 0, 0, 0, 0, 0, 0]))
def hp_28 : List Row := (((((HF.take 19).set 0 ((0, 9, [some 1, some 2, some 3, some 8, none, none, none, none, none, none, none, none, none, none, none, none], (List.replicate 16 0), (List.replicate 16 0)))).set 1 (zrow 3 6 6 0 0)).set 2 (zrow 3 4 4 0 0)).set 15 ((0, 2, [some 16, none, none, none, none, none, none], [0, 0, 0, 0, 0, 0, 0], [0, 0, 0, 0, 0, 0, 0]))).set 18 (zrow 0 4 1 1 1)
def hp_29 : List Row := ((((HF.take 20).set 0 ((0, 9, [some 1, some 2, some 3, some 8, none, none, none, none, none, none, none, none, none, none, none, none], (List.replicate 16 0), (List.replicate 16 0)))).set 1 (zrow 3 6 6 0 0)).set 2 (zrow 3 4 4 0 0)).set 15 ((0, 2, [some 16, none, none, none, none, none, none], [0, 0, 0, 0, 0, 0, 0], [0, 0, 0, 0, 0, 0, 0]))
def hp_30 : List Row := (((HF.take 20).set 0 ((0, 9, [some 1, some 2, some 3, some 8, none, none, none, none, none, none, none, none, none, none, none, none], (List.replicate 16 0), (List.replicate 16 0)))).set 1 (zrow 3 6 6 0 0)).set 2 (zrow 3 4 4 0 0)
def hp_31 : List Row := (((HF.take 20).set 0 ((0, 9, [some 1, some 2, some 3, some 8, some 15, none, none, none, none, none, none, none, none, none, none, none], (List.replicate 16 0), (List.replicate 16 0)))).set 1 (zrow 3 6 6 0 0)).set 2 (zrow 3 4 4 0 0)
def hp_32 : List Row := ((((HF.take 21).set 0 ((0, 9, [some 1, some 2, some 3, some 8, some 15, none, none, none, none, none, none, none, none, none, none, none], (List.replicate 16 0), (List.replicate 16 0)))).set 1 (zrow 3 6 6 0 0)).set 2 (zrow 3 4 4 0 0)).set 20 (zrow 4 3 3 0 0)
def hp_33 : List Row := ((((HF.take 21).set 0 ((0, 9, [some 1, some 2, some 3, some 8, some 15, some 20, none, none, none, none, none, none, none, none, none, none], (List.replicate 16 0), (List.replicate 16 0)))).set 1 (zrow 3 6 6 0 0)).set 2 (zrow 3 4 4 0 0)).set 20 (zrow 4 3 3 0 0)
def hp_34 : List Row := (((((HF.take 22).set 0 ((0, 9, [some 1, some 2, some 3, some 8, some 15, some 20, none, none, none, none, none, none, none, none, none, none], (List.replicate 16 0), (List.replicate 16 0)))).set 1 (zrow 3 6 6 0 0)).set 2 (zrow 3 4 4 0 0)).set 20 (zrow 4 3 3 0 0)).set 21 (zrow 0 7 9 9 9)
def hp_35 : List Row := ((((((HF.take 23).set 0 ((0, 9, [some 1, some 2, some 3, some 8, some 15, some 20, none, none, none, none, none, none, none, none, none, none], (List.replicate 16 0), (List.replicate 16 0)))).set 1 (zrow 3 6 6 0 0)).set 2 (zrow 3 4 4 0 0)).set 20 (zrow 4 3 3 0 0)).set 21 (zrow 0 7 9 9 9)).set 22 (zrow 0 3 2 2 2)
def hp_36 : List Row := (((((HF.take 24).set 0 ((0, 9, [some 1, some 2, some 3, some 8, some 15, some 20, none, none, none, none, none, none, none, none, none, none], (List.replicate 16 0), (List.replicate 16 0)))).set 1 (zrow 3 6 6 0 0)).set 2 (zrow 3 4 4 0 0)).set 20 (zrow 4 3 3 0 0)).set 21 (zrow 0 7 9 9 9)
def hp_37 : List Row := (((((HF.take 24).set 0 ((0, 9, [some 1, some 2, some 3, some 8, some 15, some 20, none, none, none, none, none, none, none, none, none, none], (List.replicate 16 0), (List.replicate 16 0)))).set 1 (zrow 3 6 6 0 0)).set 2 (zrow 3 4 4 0 0)).set 20 (zrow 4 3 3 0 0)).set 21 ((0, 7, [some 22, none, none, none, none, none, none, none, none], (List.replicate 9 0), (List.replicate 9 0)))
def hp_38 : List Row := ((((((HF.take 25).set 0 ((0, 9, [some 1, some 2, some 3, some 8, some 15, some 20, none, none, none, none, none, none, none, none, none, none], (List.replicate 16 0), (List.replicate 16 0)))).set 1 (zrow 3 6 6 0 0)).set 2 (zrow 3 4 4 0 0)).set 20 (zrow 4 3 3 0 0)).set 21 ((0, 7, [some 22, none, none, none, none, none, none, none, none], (List.replicate 9 0), (List.replicate 9 0)))).set 24 (zrow 0 3 2 2 2)
def hp_39 : List Row := (((((HF.take 26).set 0 ((0, 9, [some 1, some 2, some 3, some 8, some 15, some 20, none, none, none, none, none, none, none, none, none, none], (List.replicate 16 0), (List.replicate 16 0)))).set 1 (zrow 3 6 6 0 0)).set 2 (zrow 3 4 4 0 0)).set 20 (zrow 4 3 3 0 0)).set 21 ((0, 7, [some 22, none, none, none, none, none, none, none, none], (List.replicate 9 0), (List.replicate 9 0)))
def hp_40 : List Row := (((((HF.take 26).set 0 ((0, 9, [some 1, some 2, some 3, some 8, some 15, some 20, none, none, none, none, none, none, none, none, none, none], (List.replicate 16 0), (List.replicate 16 0)))).set 1 (zrow 3 6 6 0 0)).set 2 (zrow 3 4 4 0 0)).set 20 (zrow 4 3 3 0 0)).set 21 ((0, 7, [some 22, some 24, none, none, none, none, none, none, none], (List.replicate 9 0), (List.replicate 9 0)))
def hp_41 : List Row := ((((((HF.take 27).set 0 ((0, 9, [some 1, some 2, some 3, some 8, some 15, some 20, none, none, none, none, none, none, none, none, none, none], (List.replicate 16 0), (List.replicate 16 0)))).set 1 (zrow 3 6 6 0 0)).set 2 (zrow 3 4 4 0 0)).set 20 (zrow 4 3 3 0 0)).set 21 ((0, 7, [some 22, some 24, none, none, none, none, none, none, none], (List.replicate 9 0), (List.replicate 9 0)))).set 26 (zrow 0 3 2 2 2)
def hp_42 : List Row := (((((HF.take 28).set 0 ((0, 9, [some 1, some 2, some 3, some 8, some 15, some 20, none, none, none, none, none, none, none, none, none, none], (List.replicate 16 0), (List.replicate 16 0)))).set 1 (zrow 3 6 6 0 0)).set 2 (zrow 3 4 4 0 0)).set 20 (zrow 4 3 3 0 0)).set 21 ((0, 7, [some 22, some 24, none, none, none, none, none, none, none], (List.replicate 9 0), (List.replicate 9 0)))
def hp_43 : List Row := (((((HF.take 28).set 0 ((0, 9, [some 1, some 2, some 3, some 8, some 15, some 20, none, none, none, none, none, none, none, none, none, none], (List.replicate 16 0), (List.replicate 16 0)))).set 1 (zrow 3 6 6 0 0)).set 2 (zrow 3 4 4 0 0)).set 20 (zrow 4 3 3 0 0)).set 21 ((0, 7, [some 22, some 24, some 26, none, none, none, none, none, none], (List.replicate 9 0), (List.replicate 9 0)))
def hp_44 : List Row := ((((((HF.take 29).set 0 ((0, 9, [some 1, some 2, some 3, some 8, some 15, some 20, none, none, none, none, none, none, none, none, none, none], (List.replicate 16 0), (List.replicate 16 0)))).set 1 (zrow 3 6 6 0 0)).set 2 (zrow 3 4 4 0 0)).set 20 (zrow 4 3 3 0 0)).set 21 ((0, 7, [some 22, some 24, some 26, none, none, none, none, none, none], (List.replicate 9 0), (List.replicate 9 0)))).set 28 (zrow 0 4 1 1 1)
def hp_45 : List Row := (((((HF.take 30).set 0 ((0, 9, [some 1, some 2, some 3, some 8, some 15, some 20, none, none, none, none, none, none, none, none, none, none], (List.replicate 16 0), (List.replicate 16 0)))).set 1 (zrow 3 6 6 0 0)).set 2 (zrow 3 4 4 0 0)).set 20 (zrow 4 3 3 0 0)).set 21 ((0, 7, [some 22, some 24, some 26, none, none, none, none, none, none], (List.replicate 9 0), (List.replicate 9 0)))
def hp_46 : List Row := (((((HF.take 30).set 0 ((0, 9, [some 1, some 2, some 3, some 8, some 15, some 20, none, none, none, none, none, none, none, none, none, none], (List.replicate 16 0), (List.replicate 16 0)))).set 1 (zrow 3 6 6 0 0)).set 2 (zrow 3 4 4 0 0)).set 20 (zrow 4 3 3 0 0)).set 21 ((0, 7, [some 22, some 24, some 26, some 28, none, none, none, none, none], (List.replicate 9 0), (List.replicate 9 0)))
def hp_47 : List Row := ((((((HF.take 31).set 0 ((0, 9, [some 1, some 2, some 3, some 8, some 15, some 20, none, none, none, none, none, none, none, none, none, none], (List.replicate 16 0), (List.replicate 16 0)))).set 1 (zrow 3 6 6 0 0)).set 2 (zrow 3 4 4 0 0)).set 20 (zrow 4 3 3 0 0)).set 21 ((0, 7, [some 22, some 24, some 26, some 28, none, none, none, none, none], (List.replicate 9 0), (List.replicate 9 0)))).set 30 (zrow 0 4 1 1 1)
def hp_48 : List Row := (((((HF.take 32).set 0 ((0, 9, [some 1, some 2, some 3, some 8, some 15, some 20, none, none, none, none, none, none, none, none, none, none], (List.replicate 16 0), (List.replicate 16 0)))).set 1 (zrow 3 6 6 0 0)).set 2 (zrow 3 4 4 0 0)).set 20 (zrow 4 3 3 0 0)).set 21 ((0, 7, [some 22, some 24, some 26, some 28, none, none, none, none, none], (List.replicate 9 0), (List.replicate 9 0)))
def hp_49 : List Row := (((((HF.take 32).set 0 ((0, 9, [some 1, some 2, some 3, some 8, some 15, some 20, none, none, none, none, none, none, none, none, none, none], (List.replicate 16 0), (List.replicate 16 0)))).set 1 (zrow 3 6 6 0 0)).set 2 (zrow 3 4 4 0 0)).set 20 (zrow 4 3 3 0 0)).set 21 ((0, 7, [some 22, some 24, some 26, some 28, some 30, none, none, none, none], (List.replicate 9 0), (List.replicate 9 0)))
def hp_50 : List Row := ((((((HF.take 33).set 0 ((0, 9, [some 1, some 2, some 3, some 8, some 15, some 20, none, none, none, none, none, none, none, none, none, none], (List.replicate 16 0), (List.replicate 16 0)))).set 1 (zrow 3 6 6 0 0)).set 2 (zrow 3 4 4 0 0)).set 20 (zrow 4 3 3 0 0)).set 21 ((0, 7, [some 22, some 24, some 26, some 28, some 30, none, none, none, none], (List.replicate 9 0), (List.replicate 9 0)))).set 32 (zrow 0 3 2 2 2)
def hp_51 : List Row := (((((HF.take 34).set 0 ((0, 9, [some 1, some 2, some 3, some 8, some 15, some 20, none, none, none, none, none, none, none, none, none, none], (List.replicate 16 0), (List.replicate 16 0)))).set 1 (zrow 3 6 6 0 0)).set 2 (zrow 3 4 4 0 0)).set 20 (zrow 4 3 3 0 0)).set 21 ((0, 7, [some 22, some 24, some 26, some 28, some 30, none, none, none, none], (List.replicate 9 0), (List.replicate 9 0)))
def hp_52 : List Row := ((((HF.take 34).set 0 ((0, 9, [some 1, some 2, some 3, some 8, some 15, some 20, none, none, none, none, none, none, none, none, none, none], (List.replicate 16 0), (List.replicate 16 0)))).set 1 (zrow 3 6 6 0 0)).set 2 (zrow 3 4 4 0 0)).set 20 (zrow 4 3 3 0 0)
def hp_53 : List Row := ((((HF.take 34).set 0 ((0, 9, [some 1, some 2, some 3, some 8, some 15, some 20, some 21, none, none, none, none, none, none, none, none, none], (List.replicate 16 0), (List.replicate 16 0)))).set 1 (zrow 3 6 6 0 0)).set 2 (zrow 3 4 4 0 0)).set 20 (zrow 4 3 3 0 0)
def hp_54 : List Row := (((((HF.take 35).set 0 ((0, 9, [some 1, some 2, some 3, some 8, some 15, some 20, some 21, none, none, none, none, none, none, none, none, none], (List.replicate 16 0), (List.replicate 16 0)))).set 1 (zrow 3 6 6 0 0)).set 2 (zrow 3 4 4 0 0)).set 20 (zrow 4 3 3 0 0)).set 34 (zrow 0 7 9 9 9)
def hp_55 : List Row := ((((((HF.take 36).set 0 ((0, 9, [some 1, some 2, some 3, some 8, some 15, some 20, some 21, none, none, none, none, none, none, none, none, none], (List.replicate 16 0), (List.replicate 16 0)))).set 1 (zrow 3 6 6 0 0)).set 2 (zrow 3 4 4 0 0)).set 20 (zrow 4 3 3 0 0)).set 34 (zrow 0 7 9 9 9)).set 35 (zrow 0 3 2 2 2)
def hp_56 : List Row := (((((HF.take 37).set 0 ((0, 9, [some 1, some 2, some 3, some 8, some 15, some 20, some 21, none, none, none, none, none, none, none, none, none], (List.replicate 16 0), (List.replicate 16 0)))).set 1 (zrow 3 6 6 0 0)).set 2 (zrow 3 4 4 0 0)).set 20 (zrow 4 3 3 0 0)).set 34 (zrow 0 7 9 9 9)
def hp_57 : List Row := (((((HF.take 37).set 0 ((0, 9, [some 1, some 2, some 3, some 8, some 15, some 20, some 21, none, none, none, none, none, none, none, none, none], (List.replicate 16 0), (List.replicate 16 0)))).set 1 (zrow 3 6 6 0 0)).set 2 (zrow 3 4 4 0 0)).set 20 (zrow 4 3 3 0 0)).set 34 ((0, 7, [some 35, none, none, none, none, none, none, none, none], (List.replicate 9 0), (List.replicate 9 0)))
def hp_58 : List Row := ((((((HF.take 38).set 0 ((0, 9, [some 1, some 2, some 3, some 8, some 15, some 20, some 21, none, none, none, none, none, none, none, none, none], (List.replicate 16 0), (List.replicate 16 0)))).set 1 (zrow 3 6 6 0 0)).set 2 (zrow 3 4 4 0 0)).set 20 (zrow 4 3 3 0 0)).set 34 ((0, 7, [some 35, none, none, none, none, none, none, none, none], (List.replicate 9 0), (List.replicate 9 0)))).set 37 (zrow 0 3 2 2 2)
def hp_59 : List Row := (((((HF.take 39).set 0 ((0, 9, [some 1, some 2, some 3, some 8, some 15, some 20, some 21, none, none, none, none, none, none, none, none, none], (List.replicate 16 0), (List.replicate 16 0)))).set 1 (zrow 3 6 6 0 0)).set 2 (zrow 3 4 4 0 0)).set 20 (zrow 4 3 3 0 0)).set 34 ((0, 7, [some 35, none, none, none, none, none, none, none, none], (List.replicate 9 0), (List.replicate 9 0)))
def hp_60 : List Row := (((((HF.take 39).set 0 ((0, 9, [some 1, some 2, some 3, some 8, some 15, some 20, some 21, none, none, none, none, none, none, none, none, none], (List.replicate 16 0), (List.replicate 16 0)))).set 1 (zrow 3 6 6 0 0)).set 2 (zrow 3 4 4 0 0)).set 20 (zrow 4 3 3 0 0)).set 34 ((0, 7, [some 35, some 37, none, none, none, none, none, none, none], (List.replicate 9 0), (List.replicate 9 0)))
def hp_61 : List Row := ((((((HF.take 40).set 0 ((0, 9, [some 1, some 2, some 3, some 8, some 15, some 20, some 21, none, none, none, none, none, none, none, none, none], (List.replicate 16 0), (List.replicate 16 0)))).set 1 (zrow 3 6 6 0 0)).set 2 (zrow 3 4 4 0 0)).set 20 (zrow 4 3 3 0 0)).set 34 ((0, 7, [some 35, some 37, none, none, none, none, none, none, none], (List.replicate 9 0), (List.replicate 9 0)))).set 39 (zrow 0 3 2 2 2)
def hp_62 : List Row := (((((HF.take 41).set 0 ((0, 9, [some 1, some 2, some 3, some 8, some 15, some 20, some 21, none, none, none, none, none, none, none, none, none], (List.replicate 16 0), (List.replicate 16 0)))).set 1 (zrow 3 6 6 0 0)).set 2 (zrow 3 4 4 0 0)).set 20 (zrow 4 3 3 0 0)).set 34 ((0, 7, [some 35, some 37, none, none, none, none, none, none, none], (List.replicate 9 0), (List.replicate 9 0)))
def hp_63 : List Row := (((((HF.take 41).set 0 ((0, 9, [some 1, some 2, some 3, some 8, some 15, some 20, some 21, none, none, none, none, none, none, none, none, none], (List.replicate 16 0), (List.replicate 16 0)))).set 1 (zrow 3 6 6 0 0)).set 2 (zrow 3 4 4 0 0)).set 20 (zrow 4 3 3 0 0)).set 34 ((0, 7, [some 35, some 37, some 39, none, none, none, none, none, none], (List.replicate 9 0), (List.replicate 9 0)))
def hp_64 : List Row := ((((((HF.take 42).set 0 ((0, 9, [some 1, some 2, some 3, some 8, some 15, some 20, some 21, none, none, none, none, none, none, none, none, none], (List.replicate 16 0), (List.replicate 16 0)))).set 1 (zrow 3 6 6 0 0)).set 2 (zrow 3 4 4 0 0)).set 20 (zrow 4 3 3 0 0)).set 34 ((0, 7, [some 35, some 37, some 39, none, none, none, none, none, none], (List.replicate 9 0), (List.replicate 9 0)))).set 41 (zrow 0 4 1 1 1)
def hp_65 : List Row := (((((HF.take 43).set 0 ((0, 9, [some 1, some 2, some 3, some 8, some 15, some 20, some 21, none, none, none, none, none, none, none, none, none], (List.replicate 16 0), (List.replicate 16 0)))).set 1 (zrow 3 6 6 0 0)).set 2 (zrow 3 4 4 0 0)).set 20 (zrow 4 3 3 0 0)).set 34 ((0, 7, [some 35, some 37, some 39, none, none, none, none, none, none], (List.replicate 9 0), (List.replicate 9 0)))
def hp_66 : List Row := (((((HF.take 43).set 0 ((0, 9, [some 1, some 2, some 3, some 8, some 15, some 20, some 21, none, none, none, none, none, none, none, none, none], (List.replicate 16 0), (List.replicate 16 0)))).set 1 (zrow 3 6 6 0 0)).set 2 (zrow 3 4 4 0 0)).set 20 (zrow 4 3 3 0 0)).set 34 ((0, 7, [some 35, some 37, some 39, some 41, none, none, none, none, none], (List.replicate 9 0), (List.replicate 9 0)))
def hp_67 : List Row := ((((((HF.take 44).set 0 ((0, 9, [some 1, some 2, some 3, some 8, some 15, some 20, some 21, none, none, none, none, none, none, none, none, none], (List.replicate 16 0), (List.replicate 16 0)))).set 1 (zrow 3 6 6 0 0)).set 2 (zrow 3 4 4 0 0)).set 20 (zrow 4 3 3 0 0)).set 34 ((0, 7, [some 35, some 37, some 39, some 41, none, none, none, none, none], (List.replicate 9 0), (List.replicate 9 0)))).set 43 (zrow 0 4 1 1 1)
def hp_68 : List Row := (((((HF.take 45).set 0 ((0, 9, [some 1, some 2, some 3, some 8, some 15, some 20, some 21, none, none, none, none, none, none, none, none, none], (List.replicate 16 0), (List.replicate 16 0)))).set 1 (zrow 3 6 6 0 0)).set 2 (zrow 3 4 4 0 0)).set 20 (zrow 4 3 3 0 0)).set 34 ((0, 7, [some 35, some 37, some 39, some 41, none, none, none, none, none], (List.replicate 9 0), (List.replicate 9 0)))
def hp_69 : List Row := (((((HF.take 45).set 0 ((0, 9, [some 1, some 2, some 3, some 8, some 15, some 20, some 21, none, none, none, none, none, none, none, none, none], (List.replicate 16 0), (List.replicate 16 0)))).set 1 (zrow 3 6 6 0 0)).set 2 (zrow 3 4 4 0 0)).set 20 (zrow 4 3 3 0 0)).set 34 ((0, 7, [some 35, some 37, some 39, some 41, some 43, none, none, none, none], (List.replicate 9 0), (List.replicate 9 0)))
def hp_70 : List Row := ((((((HF.take 46).set 0 ((0, 9, [some 1, some 2, some 3, some 8, some 15, some 20, some 21, none, none, none, none, none, none, none, none, none], (List.replicate 16 0), (List.replicate 16 0)))).set 1 (zrow 3 6 6 0 0)).set 2 (zrow 3 4 4 0 0)).set 20 (zrow 4 3 3 0 0)).set 34 ((0, 7, [some 35, some 37, some 39, some 41, some 43, none, none, none, none], (List.replicate 9 0), (List.replicate 9 0)))).set 45 (zrow 0 3 2 2 2)
def hp_71 : List Row := (((((HF.take 47).set 0 ((0, 9, [some 1, some 2, some 3, some 8, some 15, some 20, some 21, none, none, none, none, none, none, none, none, none], (List.replicate 16 0), (List.replicate 16 0)))).set 1 (zrow 3 6 6 0 0)).set 2 (zrow 3 4 4 0 0)).set 20 (zrow 4 3 3 0 0)).set 34 ((0, 7, [some 35, some 37, some 39, some 41, some 43, none, none, none, none], (List.replicate 9 0), (List.replicate 9 0)))
def hp_72 : List Row := ((((HF.take 47).set 0 ((0, 9, [some 1, some 2, some 3, some 8, some 15, some 20, some 21, none, none, none, none, none, none, none, none, none], (List.replicate 16 0), (List.replicate 16 0)))).set 1 (zrow 3 6 6 0 0)).set 2 (zrow 3 4 4 0 0)).set 20 (zrow 4 3 3 0 0)
def hp_73 : List Row := ((((HF.take 47).set 0 ((0, 9, [some 1, some 2, some 3, some 8, some 15, some 20, some 21, some 34, none, none, none, none, none, none, none, none], (List.replicate 16 0), (List.replicate 16 0)))).set 1 (zrow 3 6 6 0 0)).set 2 (zrow 3 4 4 0 0)).set 20 (zrow 4 3 3 0 0)
def hp_74 : List Row := (((((HF.take 48).set 0 ((0, 9, [some 1, some 2, some 3, some 8, some 15, some 20, some 21, some 34, none, none, none, none, none, none, none, none], (List.replicate 16 0), (List.replicate 16 0)))).set 1 (zrow 3 6 6 0 0)).set 2 (zrow 3 4 4 0 0)).set 20 (zrow 4 3 3 0 0)).set 47 (zrow 0 5 3 3 3)
def hp_75 : List Row := ((((((HF.take 49).set 0 ((0, 9, [some 1, some 2, some 3, some 8, some 15, some 20, some 21, some 34, none, none, none, none, none, none, none, none], (List.replicate 16 0), (List.replicate 16 0)))).set 1 (zrow 3 6 6 0 0)).set 2 (zrow 3 4 4 0 0)).set 20 (zrow 4 3 3 0 0)).set 47 (zrow 0 5 3 3 3)).set 48 (zrow 0 7 9 9 9)
def hp_76 : List Row := (((((((HF.take 50).set 0 ((0, 9, [some 1, some 2, some 3, some 8, some 15, some 20, some 21, some 34, none, none, none, none, none, none, none, none], (List.replicate 16 0), (List.replicate 16 0)))).set 1 (zrow 3 6 6 0 0)).set 2 (zrow 3 4 4 0 0)).set 20 (zrow 4 3 3 0 0)).set 47 (zrow 0 5 3 3 3)).set 48 (zrow 0 7 9 9 9)).set 49 (zrow 0 3 2 2 2)
def hp_77 : List Row := ((((((HF.take 51).set 0 ((0, 9, [some 1, some 2, some 3, some 8, some 15, some 20, some 21, some 34, none, none, none, none, none, none, none, none], (List.replicate 16 0), (List.replicate 16 0)))).set 1 (zrow 3 6 6 0 0)).set 2 (zrow 3 4 4 0 0)).set 20 (zrow 4 3 3 0 0)).set 47 (zrow 0 5 3 3 3)).set 48 (zrow 0 7 9 9 9)
def hp_78 : List Row := ((((((HF.take 51).set 0 ((0, 9, [some 1, some 2, some 3, some 8, some 15, some 20, some 21, some 34, none, none, none, none, none, none, none, none], (List.replicate 16 0), (List.replicate 16 0)))).set 1 (zrow 3 6 6 0 0)).set 2 (zrow 3 4 4 0 0)).set 20 (zrow 4 3 3 0 0)).set 47 (zrow 0 5 3 3 3)).set 48 ((0, 7, [some 49, none, none, none, none, none, none, none, none], (List.replicate 9 0), (List.replicate 9 0)))
def hp_79 : List Row := (((((((HF.take 52).set 0 ((0, 9, [some 1, some 2, some 3, some 8, some 15, some 20, some 21, some 34, none, none, none, none, none, none, none, none], (List.replicate 16 0), (List.replicate 16 0)))).set 1 (zrow 3 6 6 0 0)).set 2 (zrow 3 4 4 0 0)).set 20 (zrow 4 3 3 0 0)).set 47 (zrow 0 5 3 3 3)).set 48 ((0, 7, [some 49, none, none, none, none, none, none, none, none], (List.replicate 9 0), (List.replicate 9 0)))).set 51 (zrow 0 3 2 2 2)
def hp_80 : List Row := ((((((HF.take 53).set 0 ((0, 9, [some 1, some 2, some 3, some 8, some 15, some 20, some 21, some 34, none, none, none, none, none, none, none, none], (List.replicate 16 0), (List.replicate 16 0)))).set 1 (zrow 3 6 6 0 0)).set 2 (zrow 3 4 4 0 0)).set 20 (zrow 4 3 3 0 0)).set 47 (zrow 0 5 3 3 3)).set 48 ((0, 7, [some 49, none, none, none, none, none, none, none, none], (List.replicate 9 0), (List.replicate 9 0)))
def hp_81 : List Row := ((((((HF.take 53).set 0 ((0, 9, [some 1, some 2, some 3, some 8, some 15, some 20, some 21, some 34, none, none, none, none, none, none, none, none], (List.replicate 16 0), (List.replicate 16 0)))).set 1 (zrow 3 6 6 0 0)).set 2 (zrow 3 4 4 0 0)).set 20 (zrow 4 3 3 0 0)).set 47 (zrow 0 5 3 3 3)).set 48 ((0, 7, [some 49, some 51, none, none, none, none, none, none, none], (List.replicate 9 0), (List.replicate 9 0)))
def hp_82 : List Row := (((((((HF.take 54).set 0 ((0, 9, [some 1, some 2, some 3, some 8, some 15, some 20, some 21, some 34, none, none, none, none, none, none, none, none], (List.replicate 16 0), (List.replicate 16 0)))).set 1 (zrow 3 6 6 0 0)).set 2 (zrow 3 4 4 0 0)).set 20 (zrow 4 3 3 0 0)).set 47 (zrow 0 5 3 3 3)).set 48 ((0, 7, [some 49, some 51, none, none, none, none, none, none, none], (List.replicate 9 0), (List.replicate 9 0)))).set 53 (zrow 0 3 2 2 2)
def hp_83 : List Row := ((((((HF.take 55).set 0 ((0, 9, [some 1, some 2, some 3, some 8, some 15, some 20, some 21, some 34, none, none, none, none, none, none, none, none], (List.replicate 16 0), (List.replicate 16 0)))).set 1 (zrow 3 6 6 0 0)).set 2 (zrow 3 4 4 0 0)).set 20 (zrow 4 3 3 0 0)).set 47 (zrow 0 5 3 3 3)).set 48 ((0, 7, [some 49, some 51, none, none, none, none, none, none, none], (List.replicate 9 0), (List.replicate 9 0)))
def hp_84 : List Row := ((((((HF.take 55).set 0 ((0, 9, [some 1, some 2, some 3, some 8, some 15, some 20, some 21, some 34, none, none, none, none, none, none, none, none], (List.replicate 16 0), (List.replicate 16 0)))).set 1 (zrow 3 6 6 0 0)).set 2 (zrow 3 4 4 0 0)).set 20 (zrow 4 3 3 0 0)).set 47 (zrow 0 5 3 3 3)).set 48 ((0, 7, [some 49, some 51, some 53, none, none, none, none, none, none], (List.replicate 9 0), (List.replicate 9 0)))
def hp_85 : List Row := (((((((HF.take 56).set 0 ((0, 9, [some 1, some 2, some 3, some 8, some 15, some 20, some 21, some 34, none, none, none, none, none, none, none, none], (List.replicate 16 0), (List.replicate 16 0)))).set 1 (zrow 3 6 6 0 0)).set 2 (zrow 3 4 4 0 0)).set 20 (zrow 4 3 3 0 0)).set 47 (zrow 0 5 3 3 3)).set 48 ((0, 7, [some 49, some 51, some 53, none, none, none, none, none, none], (List.replicate 9 0), (List.replicate 9 0)))).set 55 (zrow 0 4 1 1 1)
def hp_86 : List Row := ((((((HF.take 57).set 0 ((0, 9, [some 1, some 2, some 3, some 8, some 15, some 20, some 21, some 34, none, none, none, none, none, none, none, none], (List.replicate 16 0), (List.replicate 16 0)))).set 1 (zrow 3 6 6 0 0)).set 2 (zrow 3 4 4 0 0)).set 20 (zrow 4 3 3 0 0)).set 47 (zrow 0 5 3 3 3)).set 48 ((0, 7, [some 49, some 51, some 53, none, none, none, none, none, none], (List.replicate 9 0), (List.replicate 9 0)))
def hp_87 : List Row := ((((((HF.take 57).set 0 ((0, 9, [some 1, some 2, some 3, some 8, some 15, some 20, some 21, some 34, none, none, none, none, none, none, none, none], (List.replicate 16 0), (List.replicate 16 0)))).set 1 (zrow 3 6 6 0 0)).set 2 (zrow 3 4 4 0 0)).set 20 (zrow 4 3 3 0 0)).set 47 (zrow 0 5 3 3 3)).set 48 ((0, 7, [some 49, some 51, some 53, some 55, none, none, none, none, none], (List.replicate 9 0), (List.replicate 9 0)))
def hp_88 : List Row := (((((((HF.take 58).set 0 ((0, 9, [some 1, some 2, some 3, some 8, some 15, some 20, some 21, some 34, none, none, none, none, none, none, none, none], (List.replicate 16 0), (List.replicate 16 0)))).set 1 (zrow 3 6 6 0 0)).set 2 (zrow 3 4 4 0 0)).set 20 (zrow 4 3 3 0 0)).set 47 (zrow 0 5 3 3 3)).set 48 ((0, 7, [some 49, some 51, some 53, some 55, none, none, none, none, none], (List.replicate 9 0), (List.replicate 9 0)))).set 57 (zrow 0 4 1 1 1)
def hp_89 : List Row := ((((((HF.take 59).set 0 ((0, 9, [some 1, some 2, some 3, some 8, some 15, some 20, some 21, some 34, none, none, none, none, none, none, none, none], (List.replicate 16 0), (List.replicate 16 0)))).set 1 (zrow 3 6 6 0 0)).set 2 (zrow 3 4 4 0 0)).set 20 (zrow 4 3 3 0 0)).set 47 (zrow 0 5 3 3 3)).set 48 ((0, 7, [some 49, some 51, some 53, some 55, none, none, none, none, none], (List.replicate 9 0), (List.replicate 9 0)))
def hp_90 : List Row := ((((((HF.take 59).set 0 ((0, 9, [some 1, some 2, some 3, some 8, some 15, some 20, some 21, some 34, none, none, none, none, none, none, none, none], (List.replicate 16 0), (List.replicate 16 0)))).set 1 (zrow 3 6 6 0 0)).set 2 (zrow 3 4 4 0 0)).set 20 (zrow 4 3 3 0 0)).set 47 (zrow 0 5 3 3 3)).set 48 ((0, 7, [some 49, some 51, some 53, some 55, some 57, none, none, none, none], (List.replicate 9 0), (List.replicate 9 0)))
def hp_91 : List Row := (((((((HF.take 60).set 0 ((0, 9, [some 1, some 2, some 3, some 8, some 15, some 20, some 21, some 34, none, none, none, none, none, none, none, none], (List.replicate 16 0), (List.replicate 16 0)))).set 1 (zrow 3 6 6 0 0)).set 2 (zrow 3 4 4 0 0)).set 20 (zrow 4 3 3 0 0)).set 47 (zrow 0 5 3 3 3)).set 48 ((0, 7, [some 49, some 51, some 53, some 55, some 57, none, none, none, none], (List.replicate 9 0), (List.replicate 9 0)))).set 59 (zrow 0 3 2 2 2)
def hp_92 : List Row := ((((((HF.take 61).set 0 ((0, 9, [some 1, some 2, some 3, some 8, some 15, some 20, some 21, some 34, none, none, none, none, none, none, none, none], (List.replicate 16 0), (List.replicate 16 0)))).set 1 (zrow 3 6 6 0 0)).set 2 (zrow 3 4 4 0 0)).set 20 (zrow 4 3 3 0 0)).set 47 (zrow 0 5 3 3 3)).set 48 ((0, 7, [some 49, some 51, some 53, some 55, some 57, none, none, none, none], (List.replicate 9 0), (List.replicate 9 0)))
def hp_93 : List Row := (((((HF.take 61).set 0 ((0, 9, [some 1, some 2, some 3, some 8, some 15, some 20, some 21, some 34, none, none, none, none, none, none, none, none], (List.replicate 16 0), (List.replicate 16 0)))).set 1 (zrow 3 6 6 0 0)).set 2 (zrow 3 4 4 0 0)).set 20 (zrow 4 3 3 0 0)).set 47 (zrow 0 5 3 3 3)
def hp_94 : List Row := (((((HF.take 61).set 0 ((0, 9, [some 1, some 2, some 3, some 8, some 15, some 20, some 21, some 34, none, none, none, none, none, none, none, none], (List.replicate 16 0), (List.replicate 16 0)))).set 1 (zrow 3 6 6 0 0)).set 2 (zrow 3 4 4 0 0)).set 20 (zrow 4 3 3 0 0)).set 47 ((0, 5, [some 48, none, none], [0, 0, 0], [0, 0, 0]))
def hp_95 : List Row := ((((((HF.take 62).set 0 ((0, 9, [some 1, some 2, some 3, some 8, some 15, some 20, some 21, some 34, none, none, none, none, none, none, none, none], (List.replicate 16 0), (List.replicate 16 0)))).set 1 (zrow 3 6 6 0 0)).set 2 (zrow 3 4 4 0 0)).set 20 (zrow 4 3 3 0 0)).set 47 ((0, 5, [some 48, none, none], [0, 0, 0], [0, 0, 0]))).set 61 (zrow 0 7 9 9 9)
def hp_96 : List Row := (((((((HF.take 63).set 0 ((0, 9, [some 1, some 2, some 3, some 8, some 15, some 20, some 21, some 34, none, none, none, none, none, none, none, none], (List.replicate 16 0), (List.replicate 16 0)))).set 1 (zrow 3 6 6 0 0)).set 2 (zrow 3 4 4 0 0)).set 20 (zrow 4 3 3 0 0)).set 47 ((0, 5, [some 48, none, none], [0, 0, 0], [0, 0, 0]))).set 61 (zrow 0 7 9 9 9)).set 62 (zrow 0 3 2 2 2)
def hp_97 : List Row := ((((((HF.take 64).set 0 ((0, 9, [some 1, some 2, some 3, some 8, some 15, some 20, some 21, some 34, none, none, none, none, none, none, none, none], (List.replicate 16 0), (List.replicate 16 0)))).set 1 (zrow 3 6 6 0 0)).set 2 (zrow 3 4 4 0 0)).set 20 (zrow 4 3 3 0 0)).set 47 ((0, 5, [some 48, none, none], [0, 0, 0], [0, 0, 0]))).set 61 (zrow 0 7 9 9 9)
def hp_98 : List Row := ((((((HF.take 64).set 0 ((0, 9, [some 1, some 2, some 3, some 8, some 15, some 20, some 21, some 34, none, none, none, none, none, none, none, none], (List.replicate 16 0), (List.replicate 16 0)))).set 1 (zrow 3 6 6 0 0)).set 2 (zrow 3 4 4 0 0)).set 20 (zrow 4 3 3 0 0)).set 47 ((0, 5, [some 48, none, none], [0, 0, 0], [0, 0, 0]))).set 61 ((0, 7, [some 62, none, none, none, none, none, none, none, none], (List.replicate 9 0), (List.replicate 9 0)))
def hp_99 : List Row := (((((((HF.take 65).set 0 ((0, 9, [some 1, some 2, some 3, some 8, some 15, some 20, some 21, some 34, none, none, none, none, none, none, none, none], (List.replicate 16 0), (List.replicate 16 0)))).set 1 (zrow 3 6 6 0 0)).set 2 (zrow 3 4 4 0 0)).set 20 (zrow 4 3 3 0 0)).set 47 ((0, 5, [some 48, none, none], [0, 0, 0], [0, 0, 0]))).set 61 ((0, 7, [some 62, none, none, none, none, none, none, none, none], (List.replicate 9 0), (List.replicate 9 0)))).set 64 (zrow 0 3 2 2 2)
def hp_100 : List Row := ((((((HF.take 66).set 0 ((0, 9, [some 1, some 2, some 3, some 8, some 15, some 20, some 21, some 34, none, none, none, none, none, none, none, none], (List.replicate 16 0), (List.replicate 16 0)))).set 1 (zrow 3 6 6 0 0)).set 2 (zrow 3 4 4 0 0)).set 20 (zrow 4 3 3 0 0)).set 47 ((0, 5, [some 48, none, none], [0, 0, 0], [0, 0, 0]))).set 61 ((0, 7, [some 62, none, none, none, none, none, none, none, none], (List.replicate 9 0), (List.replicate 9 0)))
def hp_101 : List Row := ((((((HF.take 66).set 0 ((0, 9, [some 1, some 2, some 3, some 8, some 15, some 20, some 21, some 34, none, none, none, none, none, none, none, none], (List.replicate 16 0), (List.replicate 16 0)))).set 1 (zrow 3 6 6 0 0)).set 2 (zrow 3 4 4 0 0)).set 20 (zrow 4 3 3 0 0)).set 47 ((0, 5, [some 48, none, none], [0, 0, 0], [0, 0, 0]))).set 61 ((0, 7, [some 62, some 64, none, none, none, none, none, none, none], (List.replicate 9 0), (List.replicate 9 0)))
def hp_102 : List Row := (((((((HF.take 67).set 0 ((0, 9, [some 1, some 2, some 3, some 8, some 15, some 20, some 21, some 34, none, none, none, none, none, none, none, none], (List.replicate 16 0), (List.replicate 16 0)))).set 1 (zrow 3 6 6 0 0)).set 2 (zrow 3 4 4 0 0)).set 20 (zrow 4 3 3 0 0)).set 47 ((0, 5, [some 48, none, none], [0, 0, 0], [0, 0, 0]))).set 61 ((0, 7, [some 62, some 64, none, none, none, none, none, none, none], (List.replicate 9 0), (List.replicate 9 0)))).set 66 (zrow 0 3 2 2 2)
def hp_103 : List Row := ((((((HF.take 68).set 0 ((0, 9, [some 1, some 2, some 3, some 8, some 15, some 20, some 21, some 34, none, none, none, none, none, none, none, none], (List.replicate 16 0), (List.replicate 16 0)))).set 1 (zrow 3 6 6 0 0)).set 2 (zrow 3 4 4 0 0)).set 20 (zrow 4 3 3 0 0)).set 47 ((0, 5, [some 48, none, none], [0, 0, 0], [0, 0, 0]))).set 61 ((0, 7, [some 62, some 64, none, none, none, none, none, none, none], (List.replicate 9 0), (List.replicate 9 0)))
def hp_104 : List Row := ((((((HF.take 68).set 0 ((0, 9, [some 1, some 2, some 3, some 8, some 15, some 20, some 21, some 34, none, none, none, none, none, none, none, none], (List.replicate 16 0), (List.replicate 16 0)))).set 1 (zrow 3 6 6 0 0)).set 2 (zrow 3 4 4 0 0)).set 20 (zrow 4 3 3 0 0)).set 47 ((0, 5, [some 48, none, none], [0, 0, 0], [0, 0, 0]))).set 61 ((0, 7, [some 62, some 64, some 66, none, none, none, none, none, none], (List.replicate 9 0), (List.replicate 9 0)))
def hp_105 : List Row := (((((((HF.take 69).set 0 ((0, 9, [some 1, some 2, some 3, some 8, some 15, some 20, some 21, some 34, none, none, none, none, none, none, none, none], (List.replicate 16 0), (List.replicate 16 0)))).set 1 (zrow 3 6 6 0 0)).set 2 (zrow 3 4 4 0 0)).set 20 (zrow 4 3 3 0 0)).set 47 ((0, 5, [some 48, none, none], [0, 0, 0], [0, 0, 0]))).set 61 ((0, 7, [some 62, some 64, some 66, none, none, none, none, none, none], (List.replicate 9 0), (List.replicate 9 0)))).set 68 (zrow 0 4 1 1 1)
def hp_106 : List Row := ((((((HF.take 70).set 0 ((0, 9, [some 1, some 2, some 3, some 8, some 15, some 20, some 21, some 34, none, none, none, none, none, none, none, none], (List.replicate 16 0), (List.replicate 16 0)))).set 1 (zrow 3 6 6 0 0)).set 2 (zrow 3 4 4 0 0)).set 20 (zrow 4 3 3 0 0)).set 47 ((0, 5, [some 48, none, none], [0, 0, 0], [0, 0, 0]))).set 61 ((0, 7, [some 62, some 64, some 66, none, none, none, none, none, none], (List.replicate 9 0), (List.replicate 9 0)))
def hp_107 : List Row := ((((((HF.take 70).set 0 ((0, 9, [some 1, some 2, some 3, some 8, some 15, some 20, some 21, some 34, none, none, none, none, none, none, none, none], (List.replicate 16 0), (List.replicate 16 0)))).set 1 (zrow 3 6 6 0 0)).set 2 (zrow 3 4 4 0 0)).set 20 (zrow 4 3 3 0 0)).set 47 ((0, 5, [some 48, none, none], [0, 0, 0], [0, 0, 0]))).set 61 ((0, 7, [some 62, some 64, some 66, some 68, none, none, none, none, none], (List.replicate 9 0), (List.replicate 9 0)))
def hp_108 : List Row := (((((((HF.take 71).set 0 ((0, 9, [some 1, some 2, some 3, some 8, some 15, some 20, some 21, some 34, none, none, none, none, none, none, none, none], (List.replicate 16 0), (List.replicate 16 0)))).set 1 (zrow 3 6 6 0 0)).set 2 (zrow 3 4 4 0 0)).set 20 (zrow 4 3 3 0 0)).set 47 ((0, 5, [some 48, none, none], [0, 0, 0], [0, 0, 0]))).set 61 ((0, 7, [some 62, some 64, some 66, some 68, none, none, none, none, none], (List.replicate 9 0), (List.replicate 9 0)))).set 70 (zrow 0 4 1 1 1)
def hp_109 : List Row := ((((((HF.take 72).set 0 ((0, 9, [some 1, some 2, some 3, some 8, some 15, some 20, some 21, some 34, none, none, none, none, none, none, none, none], (List.replicate 16 0), (List.replicate 16 0)))).set 1 (zrow 3 6 6 0 0)).set 2 (zrow 3 4 4 0 0)).set 20 (zrow 4 3 3 0 0)).set 47 ((0, 5, [some 48, none, none], [0, 0, 0], [0, 0, 0]))).set 61 ((0, 7, [some 62, some 64, some 66, some 68, none, none, none, none, none], (List.replicate 9 0), (List.replicate 9 0)))
def hp_110 : List Row := ((((((HF.take 72).set 0 ((0, 9, [some 1, some 2, some 3, some 8, some 15, some 20, some 21, some 34, none, none, none, none, none, none, none, none], (List.replicate 16 0), (List.replicate 16 0)))).set 1 (zrow 3 6 6 0 0)).set 2 (zrow 3 4 4 0 0)).set 20 (zrow 4 3 3 0 0)).set 47 ((0, 5, [some 48, none, none], [0, 0, 0], [0, 0, 0]))).set 61 ((0, 7, [some 62, some 64, some 66, some 68, some 70, none, none, none, none], (List.replicate 9 0), (List.replicate 9 0)))
def hp_111 : List Row := (((((((HF.take 73).set 0 ((0, 9, [some 1, some 2, some 3, some 8, some 15, some 20, some 21, some 34, none, none, none, none, none, none, none, none], (List.replicate 16 0), (List.replicate 16 0)))).set 1 (zrow 3 6 6 0 0)).set 2 (zrow 3 4 4 0 0)).set 20 (zrow 4 3 3 0 0)).set 47 ((0, 5, [some 48, none, none], [0, 0, 0], [0, 0, 0]))).set 61 ((0, 7, [some 62, some 64, some 66, some 68, some 70, none, none, none, none], (List.replicate 9 0), (List.replicate 9 0)))).set 72 (zrow 0 3 2 2 2)
def hp_112 : List Row := ((((((HF.take 74).set 0 ((0, 9, [some 1, some 2, some 3, some 8, some 15, some 20, some 21, some 34, none, none, none, none, none, none, none, none], (List.replicate 16 0), (List.replicate 16 0)))).set 1 (zrow 3 6 6 0 0)).set 2 (zrow 3 4 4 0 0)).set 20 (zrow 4 3 3 0 0)).set 47 ((0, 5, [some 48, none, none], [0, 0, 0], [0, 0, 0]))).set 61 ((0, 7, [some 62, some 64, some 66, some 68, some 70, none, none, none, none], (List.replicate 9 0), (List.replicate 9 0)))
def hp_113 : List Row := (((((HF.take 74).set 0 ((0, 9, [some 1, some 2, some 3, some 8, some 15, some 20, some 21, some 34, none, none, none, none, none, none, none, none], (List.replicate 16 0), (List.replicate 16 0)))).set 1 (zrow 3 6 6 0 0)).set 2 (zrow 3 4 4 0 0)).set 20 (zrow 4 3 3 0 0)).set 47 ((0, 5, [some 48, none, none], [0, 0, 0], [0, 0, 0]))
def hp_114 : List Row := (((((HF.take 74).set 0 ((0, 9, [some 1, some 2, some 3, some 8, some 15, some 20, some 21, some 34, none, none, none, none, none, none, none, none], (List.replicate 16 0), (List.replicate 16 0)))).set 1 (zrow 3 6 6 0 0)).set 2 (zrow 3 4 4 0 0)).set 20 (zrow 4 3 3 0 0)).set 47 ((0, 5, [some 48, some 61, none], [0, 0, 0], [0, 0, 0]))
def hp_115 : List Row := ((((((HF.take 75).set 0 ((0, 9, [some 1, some 2, some 3, some 8, some 15, some 20, some 21, some 34, none, none, none, none, none, none, none, none], (List.replicate 16 0), (List.replicate 16 0)))).set 1 (zrow 3 6 6 0 0)).set 2 (zrow 3 4 4 0 0)).set 20 (zrow 4 3 3 0 0)).set 47 ((0, 5, [some 48, some 61, none], [0, 0, 0], [0, 0, 0]))).set 74 (zrow 0 3 2 2 2)
def hp_116 : List Row := (((((HF.take 76).set 0 ((0, 9, [some 1, some 2, some 3, some 8, some 15, some 20, some 21, some 34, none, none, none, none, none, none, none, none], (List.replicate 16 0), (List.replicate 16 0)))).set 1 (zrow 3 6 6 0 0)).set 2 (zrow 3 4 4 0 0)).set 20 (zrow 4 3 3 0 0)).set 47 ((0, 5, [some 48, some 61, none], [0, 0, 0], [0, 0, 0]))
def hp_117 : List Row := ((((HF.take 76).set 0 ((0, 9, [some 1, some 2, some 3, some 8, some 15, some 20, some 21, some 34, none, none, none, none, none, none, none, none], (List.replicate 16 0), (List.replicate 16 0)))).set 1 (zrow 3 6 6 0 0)).set 2 (zrow 3 4 4 0 0)).set 20 (zrow 4 3 3 0 0)
def hp_118 : List Row := ((((HF.take 76).set 0 ((0, 9, [some 1, some 2, some 3, some 8, some 15, some 20, some 21, some 34, some 47, none, none, none, none, none, none, none], (List.replicate 16 0), (List.replicate 16 0)))).set 1 (zrow 3 6 6 0 0)).set 2 (zrow 3 4 4 0 0)).set 20 (zrow 4 3 3 0 0)
def hp_119 : List Row := (((((HF.take 77).set 0 ((0, 9, [some 1, some 2, some 3, some 8, some 15, some 20, some 21, some 34, some 47, none, none, none, none, none, none, none], (List.replicate 16 0), (List.replicate 16 0)))).set 1 (zrow 3 6 6 0 0)).set 2 (zrow 3 4 4 0 0)).set 20 (zrow 4 3 3 0 0)).set 76 (zrow 0 8 6 6 6)
def hp_120 : List Row := ((((((HF.take 78).set 0 ((0, 9, [some 1, some 2, some 3, some 8, some 15, some 20, some 21, some 34, some 47, none, none, none, none, none, none, none], (List.replicate 16 0), (List.replicate 16 0)))).set 1 (zrow 3 6 6 0 0)).set 2 (zrow 3 4 4 0 0)).set 20 (zrow 4 3 3 0 0)).set 76 (zrow 0 8 6 6 6)).set 77 (zrow 0 7 9 9 9)
def hp_121 : List Row := (((((((HF.take 79).set 0 ((0, 9, [some 1, some 2, some 3, some 8, some 15, some 20, some 21, some 34, some 47, none, none, none, none, none, none, none], (List.replicate 16 0), (List.replicate 16 0)))).set 1 (zrow 3 6 6 0 0)).set 2 (zrow 3 4 4 0 0)).set 20 (zrow 4 3 3 0 0)).set 76 (zrow 0 8 6 6 6)).set 77 (zrow 0 7 9 9 9)).set 78 (zrow 0 3 2 2 2)
def hp_122 : List Row := ((((((HF.take 80).set 0 ((0, 9, [some 1, some 2, some 3, some 8, some 15, some 20, some 21, some 34, some 47, none, none, none, none, none, none, none], (List.replicate 16 0), (List.replicate 16 0)))).set 1 (zrow 3 6 6 0 0)).set 2 (zrow 3 4 4 0 0)).set 20 (zrow 4 3 3 0 0)).set 76 (zrow 0 8 6 6 6)).set 77 (zrow 0 7 9 9 9)
def hp_123 : List Row := ((((((HF.take 80).set 0 ((0, 9, [some 1, some 2, some 3, some 8, some 15, some 20, some 21, some 34, some 47, none, none, none, none, none, none, none], (List.replicate 16 0), (List.replicate 16 0)))).set 1 (zrow 3 6 6 0 0)).set 2 (zrow 3 4 4 0 0)).set 20 (zrow 4 3 3 0 0)).set 76 (zrow 0 8 6 6 6)).set 77 ((0, 7, [some 78, none, none, none, none, none, none, none, none], (List.replicate 9 0), (List.replicate 9 0)))
def hp_124 : List Row := (((((((HF.take 81).set 0 ((0, 9, [some 1, some 2, some 3, some 8, some 15, some 20, some 21, some 34, some 47, none, none, none, none, none, none, none], (List.replicate 16 0), (List.replicate 16 0)))).set 1 (zrow 3 6 6 0 0)).set 2 (zrow 3 4 4 0 0)).set 20 (zrow 4 3 3 0 0)).set 76 (zrow 0 8 6 6 6)).set 77 ((0, 7, [some 78, none, none, none, none, none, none, none, none], (List.replicate 9 0), (List.replicate 9 0)))).set 80 (zrow 0 3 2 2 2)
def hp_125 : List Row := ((((((HF.take 82).set 0 ((0, 9, [some 1, some 2, some 3, some 8, some 15, some 20, some 21, some 34, some 47, none, none, none, none, none, none, none], (List.replicate 16 0), (List.replicate 16 0)))).set 1 (zrow 3 6 6 0 0)).set 2 (zrow 3 4 4 0 0)).set 20 (zrow 4 3 3 0 0)).set 76 (zrow 0 8 6 6 6)).set 77 ((0, 7, [some 78, none, none, none, none, none, none, none, none], (List.replicate 9 0), (List.replicate 9 0)))
def hp_126 : List Row := ((((((HF.take 82).set 0 ((0, 9, [some 1, some 2, some 3, some 8, some 15, some 20, some 21, some 34, some 47, none, none, none, none, none, none, none], (List.replicate 16 0), (List.replicate 16 0)))).set 1 (zrow 3 6 6 0 0)).set 2 (zrow 3 4 4 0 0)).set 20 (zrow 4 3 3 0 0)).set 76 (zrow 0 8 6 6 6)).set 77 ((0, 7, [some 78, some 80, none, none, none, none, none, none, none], (List.replicate 9 0), (List.replicate 9 0)))
def hp_127 : List Row := (((((((HF.take 83).set 0 ((0, 9, [some 1, some 2, some 3, some 8, some 15, some 20, some 21, some 34, some 47, none, none, none, none, none, none, none], (List.replicate 16 0), (List.replicate 16 0)))).set 1 (zrow 3 6 6 0 0)).set 2 (zrow 3 4 4 0 0)).set 20 (zrow 4 3 3 0 0)).set 76 (zrow 0 8 6 6 6)).set 77 ((0, 7, [some 78, some 80, none, none, none, none, none, none, none], (List.replicate 9 0), (List.replicate 9 0)))).set 82 (zrow 0 3 2 2 2)
def hp_128 : List Row := ((((((HF.take 84).set 0 ((0, 9, [some 1, some 2, some 3, some 8, some 15, some 20, some 21, some 34, some 47, none, none, none, none, none, none, none], (List.replicate 16 0), (List.replicate 16 0)))).set 1 (zrow 3 6 6 0 0)).set 2 (zrow 3 4 4 0 0)).set 20 (zrow 4 3 3 0 0)).set 76 (zrow 0 8 6 6 6)).set 77 ((0, 7, [some 78, some 80, none, none, none, none, none, none, none], (List.replicate 9 0), (List.replicate 9 0)))
def hp_129 : List Row := ((((((HF.take 84).set 0 ((0, 9, [some 1, some 2, some 3, some 8, some 15, some 20, some 21, some 34, some 47, none, none, none, none, none, none, none], (List.replicate 16 0), (List.replicate 16 0)))).set 1 (zrow 3 6 6 0 0)).set 2 (zrow 3 4 4 0 0)).set 20 (zrow 4 3 3 0 0)).set 76 (zrow 0 8 6 6 6)).set 77 ((0, 7, [some 78, some 80, some 82, none, none, none, none, none, none], (List.replicate 9 0), (List.replicate 9 0)))
def hp_130 : List Row := (((((((HF.take 85).set 0 ((0, 9, [some 1, some 2, some 3, some 8, some 15, some 20, some 21, some 34, some 47, none, none, none, none, none, none, none], (List.replicate 16 0), (List.replicate 16 0)))).set 1 (zrow 3 6 6 0 0)).set 2 (zrow 3 4 4 0 0)).set 20 (zrow 4 3 3 0 0)).set 76 (zrow 0 8 6 6 6)).set 77 ((0, 7, [some 78, some 80, some 82, none, none, none, none, none, none], (List.replicate 9 0), (List.replicate 9 0)))).set 84 (zrow 0 4 1 1 1)
def hp_131 : List Row := ((((((HF.take 86).set 0 ((0, 9, [some 1, some 2, some 3, some 8, some 15, some 20, some 21, some 34, some 47, none, none, none, none, none, none, none], (List.replicate 16 0), (List.replicate 16 0)))).set 1 (zrow 3 6 6 0 0)).set 2 (zrow 3 4 4 0 0)).set 20 (zrow 4 3 3 0 0)).set 76 (zrow 0 8 6 6 6)).set 77 ((0, 7, [some 78, some 80, some 82, none, none, none, none, none, none], (List.replicate 9 0), (List.replicate 9 0)))
def hp_132 : List Row := ((((((HF.take 86).set 0 ((0, 9, [some 1, some 2, some 3, some 8, some 15, some 20, some 21, some 34, some 47, none, none, none, none, none, none, none], (List.replicate 16 0), (List.replicate 16 0)))).set 1 (zrow 3 6 6 0 0)).set 2 (zrow 3 4 4 0 0)).set 20 (zrow 4 3 3 0 0)).set 76 (zrow 0 8 6 6 6)).set 77 ((0, 7, [some 78, some 80, some 82, some 84, none, none, none, none, none], (List.replicate 9 0), (List.replicate 9 0)))
def hp_133 : List Row := (((((((HF.take 87).set 0 ((0, 9, [some 1, some 2, some 3, some 8, some 15, some 20, some 21, some 34, some 47, none, none, none, none, none, none, none], (List.replicate 16 0), (List.replicate 16 0)))).set 1 (zrow 3 6 6 0 0)).set 2 (zrow 3 4 4 0 0)).set 20 (zrow 4 3 3 0 0)).set 76 (zrow 0 8 6 6 6)).set 77 ((0, 7, [some 78, some 80, some 82, some 84, none, none, none, none, none], (List.replicate 9 0), (List.replicate 9 0)))).set 86 (zrow 0 4 1 1 1)
def hp_134 : List Row := ((((((HF.take 88).set 0 ((0, 9, [some 1, some 2, some 3, some 8, some 15, some 20, some 21, some 34, some 47, none, none, none, none, none, none, none], (List.replicate 16 0), (List.replicate 16 0)))).set 1 (zrow 3 6 6 0 0)).set 2 (zrow 3 4 4 0 0)).set 20 (zrow 4 3 3 0 0)).set 76 (zrow 0 8 6 6 6)).set 77 ((0, 7, [some 78, some 80, some 82, some 84, none, none, none, none, none], (List.replicate 9 0), (List.replicate 9 0)))
def hp_135 : List Row := ((((((HF.take 88).set 0 ((0, 9, [some 1, some 2, some 3, some 8, some 15, some 20, some 21, some 34, some 47, none, none, none, none, none, none, none], (List.replicate 16 0), (List.replicate 16 0)))).set 1 (zrow 3 6 6 0 0)).set 2 (zrow 3 4 4 0 0)).set 20 (zrow 4 3 3 0 0)).set 76 (zrow 0 8 6 6 6)).set 77 ((0, 7, [some 78, some 80, some 82, some 84, some 86, none, none, none, none], (List.replicate 9 0), (List.replicate 9 0)))
def hp_136 : List Row := (((((((HF.take 89).set 0 ((0, 9, [some 1, some 2, some 3, some 8, some 15, some 20, some 21, some 34, some 47, none, none, none, none, none, none, none], (List.replicate 16 0), (List.replicate 16 0)))).set 1 (zrow 3 6 6 0 0)).set 2 (zrow 3 4 4 0 0)).set 20 (zrow 4 3 3 0 0)).set 76 (zrow 0 8 6 6 6)).set 77 ((0, 7, [some 78, some 80, some 82, some 84, some 86, none, none, none, none], (List.replicate 9 0), (List.replicate 9 0)))).set 88 (zrow 0 3 2 2 2)
def hp_137 : List Row := ((((((HF.take 90).set 0 ((0, 9, [some 1, some 2, some 3, some 8, some 15, some 20, some 21, some 34, some 47, none, none, none, none, none, none, none], (List.replicate 16 0), (List.replicate 16 0)))).set 1 (zrow 3 6 6 0 0)).set 2 (zrow 3 4 4 0 0)).set 20 (zrow 4 3 3 0 0)).set 76 (zrow 0 8 6 6 6)).set 77 ((0, 7, [some 78, some 80, some 82, some 84, some 86, none, none, none, none], (List.replicate 9 0), (List.replicate 9 0)))
def hp_138 : List Row := (((((HF.take 90).set 0 ((0, 9, [some 1, some 2, some 3, some 8, some 15, some 20, some 21, some 34, some 47, none, none, none, none, none, none, none], (List.replicate 16 0), (List.replicate 16 0)))).set 1 (zrow 3 6 6 0 0)).set 2 (zrow 3 4 4 0 0)).set 20 (zrow 4 3 3 0 0)).set 76 (zrow 0 8 6 6 6)
def hp_139 : List Row := ((((HF.take 90).set 0 ((0, 9, [some 1, some 2, some 3, some 8, some 15, some 20, some 21, some 34, some 47, none, none, none, none, none, none, none], (List.replicate 16 0), (List.replicate 16 0)))).set 1 (zrow 3 6 6 0 0)).set 2 (zrow 3 4 4 0 0)).set 20 (zrow 4 3 3 0 0)
def hp_140 : List Row := ((((HF.take 90).set 0 ((0, 9, [some 1, some 2, some 3, some 8, some 15, some 20, some 21, some 34, some 47, some 76, none, none, none, none, none, none], (List.replicate 16 0), (List.replicate 16 0)))).set 1 (zrow 3 6 6 0 0)).set 2 (zrow 3 4 4 0 0)).set 20 (zrow 4 3 3 0 0)
def hp_141 : List Row := (((((HF.take 91).set 0 ((0, 9, [some 1, some 2, some 3, some 8, some 15, some 20, some 21, some 34, some 47, some 76, none, none, none, none, none, none], (List.replicate 16 0), (List.replicate 16 0)))).set 1 (zrow 3 6 6 0 0)).set 2 (zrow 3 4 4 0 0)).set 20 (zrow 4 3 3 0 0)).set 90 (zrow 0 1 6 6 6)
def hp_142 : List Row := ((((((HF.take 92).set 0 ((0, 9, [some 1, some 2, some 3, some 8, some 15, some 20, some 21, some 34, some 47, some 76, none, none, none, none, none, none], (List.replicate 16 0), (List.replicate 16 0)))).set 1 (zrow 3 6 6 0 0)).set 2 (zrow 3 4 4 0 0)).set 20 (zrow 4 3 3 0 0)).set 90 (zrow 0 1 6 6 6)).set 91 (zrow 0 7 9 9 9)
def hp_143 : List Row := (((((((HF.take 93).set 0 ((0, 9, [some 1, some 2, some 3, some 8, some 15, some 20, some 21, some 34, some 47, some 76, none, none, none, none, none, none], (List.replicate 16 0), (List.replicate 16 0)))).set 1 (zrow 3 6 6 0 0)).set 2 (zrow 3 4 4 0 0)).set 20 (zrow 4 3 3 0 0)).set 90 (zrow 0 1 6 6 6)).set 91 (zrow 0 7 9 9 9)).set 92 (zrow 0 3 2 2 2)
def hp_144 : List Row := ((((((HF.take 94).set 0 ((0, 9, [some 1, some 2, some 3, some 8, some 15, some 20, some 21, some 34, some 47, some 76, none, none, none, none, none, none], (List.replicate 16 0), (List.replicate 16 0)))).set 1 (zrow 3 6 6 0 0)).set 2 (zrow 3 4 4 0 0)).set 20 (zrow 4 3 3 0 0)).set 90 (zrow 0 1 6 6 6)).set 91 (zrow 0 7 9 9 9)
def hp_145 : List Row := ((((((HF.take 94).set 0 ((0, 9, [some 1, some 2, some 3, some 8, some 15, some 20, some 21, some 34, some 47, some 76, none, none, none, none, none, none], (List.replicate 16 0), (List.replicate 16 0)))).set 1 (zrow 3 6 6 0 0)).set 2 (zrow 3 4 4 0 0)).set 20 (zrow 4 3 3 0 0)).set 90 (zrow 0 1 6 6 6)).set 91 ((0, 7, [some 92, none, none, none, none, none, none, none, none], (List.replicate 9 0), (List.replicate 9 0)))
def hp_146 : List Row := (((((((HF.take 95).set 0 ((0, 9, [some 1, some 2, some 3, some 8, some 15, some 20, some 21, some 34, some 47, some 76, none, none, none, none, none, none], (List.replicate 16 0), (List.replicate 16 0)))).set 1 (zrow 3 6 6 0 0)).set 2 (zrow 3 4 4 0 0)).set 20 (zrow 4 3 3 0 0)).set 90 (zrow 0 1 6 6 6)).set 91 ((0, 7, [some 92, none, none, none, none, none, none, none, none], (List.replicate 9 0), (List.replicate 9 0)))).set 94 (zrow 0 3 2 2 2)
def hp_147 : List Row := ((((((HF.take 96).set 0 ((0, 9, [some 1, some 2, some 3, some 8, some 15, some 20, some 21, some 34, some 47, some 76, none, none, none, none, none, none], (List.replicate 16 0), (List.replicate 16 0)))).set 1 (zrow 3 6 6 0 0)).set 2 (zrow 3 4 4 0 0)).set 20 (zrow 4 3 3 0 0)).set 90 (zrow 0 1 6 6 6)).set 91 ((0, 7, [some 92, none, none, none, none, none, none, none, none], (List.replicate 9 0), (List.replicate 9 0)))
def hp_148 : List Row := ((((((HF.take 96).set 0 ((0, 9, [some 1, some 2, some 3, some 8, some 15, some 20, some 21, some 34, some 47, some 76, none, none, none, none, none, none], (List.replicate 16 0), (List.replicate 16 0)))).set 1 (zrow 3 6 6 0 0)).set 2 (zrow 3 4 4 0 0)).set 20 (zrow 4 3 3 0 0)).set 90 (zrow 0 1 6 6 6)).set 91 ((0, 7, [some 92, some 94, none, none, none, none, none, none, none], (List.replicate 9 0), (List.replicate 9 0)))
def hp_149 : List Row := (((((((HF.take 97).set 0 ((0, 9, [some 1, some 2, some 3, some 8, some 15, some 20, some 21, some 34, some 47, some 76, none, none, none, none, none, none], (List.replicate 16 0), (List.replicate 16 0)))).set 1 (zrow 3 6 6 0 0)).set 2 (zrow 3 4 4 0 0)).set 20 (zrow 4 3 3 0 0)).set 90 (zrow 0 1 6 6 6)).set 91 ((0, 7, [some 92, some 94, none, none, none, none, none, none, none], (List.replicate 9 0), (List.replicate 9 0)))).set 96 (zrow 0 3 2 2 2)
def hp_150 : List Row := ((((((HF.take 98).set 0 ((0, 9, [some 1, some 2, some 3, some 8, some 15, some 20, some 21, some 34, some 47, some 76, none, none, none, none, none, none], (List.replicate 16 0), (List.replicate 16 0)))).set 1 (zrow 3 6 6 0 0)).set 2 (zrow 3 4 4 0 0)).set 20 (zrow 4 3 3 0 0)).set 90 (zrow 0 1 6 6 6)).set 91 ((0, 7, [some 92, some 94, none, none, none, none, none, none, none], (List.replicate 9 0), (List.replicate 9 0)))
def hp_151 : List Row := ((((((HF.take 98).set 0 ((0, 9, [some 1, some 2, some 3, some 8, some 15, some 20, some 21, some 34, some 47, some 76, none, none, none, none, none, none], (List.replicate 16 0), (List.replicate 16 0)))).set 1 (zrow 3 6 6 0 0)).set 2 (zrow 3 4 4 0 0)).set 20 (zrow 4 3 3 0 0)).set 90 (zrow 0 1 6 6 6)).set 91 ((0, 7, [some 92, some 94, some 96, none, none, none, none, none, none], (List.replicate 9 0), (List.replicate 9 0)))
def hp_152 : List Row := (((((((HF.take 99).set 0 ((0, 9, [some 1, some 2, some 3, some 8, some 15, some 20, some 21, some 34, some 47, some 76, none, none, none, none, none, none], (List.replicate 16 0), (List.replicate 16 0)))).set 1 (zrow 3 6 6 0 0)).set 2 (zrow 3 4 4 0 0)).set 20 (zrow 4 3 3 0 0)).set 90 (zrow 0 1 6 6 6)).set 91 ((0, 7, [some 92, some 94, some 96, none, none, none, none, none, none], (List.replicate 9 0), (List.replicate 9 0)))).set 98 (zrow 0 4 1 1 1)
def hp_153 : List Row := ((((((HF.take 100).set 0 ((0, 9, [some 1, some 2, some 3, some 8, some 15, some 20, some 21, some 34, some 47, some 76, none, none, none, none, none, none], (List.replicate 16 0), (List.replicate 16 0)))).set 1 (zrow 3 6 6 0 0)).set 2 (zrow 3 4 4 0 0)).set 20 (zrow 4 3 3 0 0)).set 90 (zrow 0 1 6 6 6)).set 91 ((0, 7, [some 92, some 94, some 96, none, none, none, none, none, none], (List.replicate 9 0), (List.replicate 9 0)))
def hp_154 : List Row := ((((((HF.take 100).set 0 ((0, 9, [some 1, some 2, some 3, some 8, some 15, some 20, some 21, some 34, some 47, some 76, none, none, none, none, none, none], (List.replicate 16 0), (List.replicate 16 0)))).set 1 (zrow 3 6 6 0 0)).set 2 (zrow 3 4 4 0 0)).set 20 (zrow 4 3 3 0 0)).set 90 (zrow 0 1 6 6 6)).set 91 ((0, 7, [some 92, some 94, some 96, some 98, none, none, none, none, none], (List.replicate 9 0), (List.replicate 9 0)))
def hp_155 : List Row := (((((((HF.take 101).set 0 ((0, 9, [some 1, some 2, some 3, some 8, some 15, some 20, some 21, some 34, some 47, some 76, none, none, none, none, none, none], (List.replicate 16 0), (List.replicate 16 0)))).set 1 (zrow 3 6 6 0 0)).set 2 (zrow 3 4 4 0 0)).set 20 (zrow 4 3 3 0 0)).set 90 (zrow 0 1 6 6 6)).set 91 ((0, 7, [some 92, some 94, some 96, some 98, none, none, none, none, none], (List.replicate 9 0), (List.replicate 9 0)))).set 100 (zrow 0 4 1 1 1)
def hp_156 : List Row := ((((((HF.take 102).set 0 ((0, 9, [some 1, some 2, some 3, some 8, some 15, some 20, some 21, some 34, some 47, some 76, none, none, none, none, none, none], (List.replicate 16 0), (List.replicate 16 0)))).set 1 (zrow 3 6 6 0 0)).set 2 (zrow 3 4 4 0 0)).set 20 (zrow 4 3 3 0 0)).set 90 (zrow 0 1 6 6 6)).set 91 ((0, 7, [some 92, some 94, some 96, some 98, none, none, none, none, none], (List.replicate 9 0), (List.replicate 9 0)))
def hp_157 : List Row := ((((((HF.take 102).set 0 ((0, 9, [some 1, some 2, some 3, some 8, some 15, some 20, some 21, some 34, some 47, some 76, none, none, none, none, none, none], (List.replicate 16 0), (List.replicate 16 0)))).set 1 (zrow 3 6 6 0 0)).set 2 (zrow 3 4 4 0 0)).set 20 (zrow 4 3 3 0 0)).set 90 (zrow 0 1 6 6 6)).set 91 ((0, 7, [some 92, some 94, some 96, some 98, some 100, none, none, none, none], (List.replicate 9 0), (List.replicate 9 0)))
def hp_158 : List Row := (((((((HF.take 103).set 0 ((0, 9, [some 1, some 2, some 3, some 8, some 15, some 20, some 21, some 34, some 47, some 76, none, none, none, none, none, none], (List.replicate 16 0), (List.replicate 16 0)))).set 1 (zrow 3 6 6 0 0)).set 2 (zrow 3 4 4 0 0)).set 20 (zrow 4 3 3 0 0)).set 90 (zrow 0 1 6 6 6)).set 91 ((0, 7, [some 92, some 94, some 96, some 98, some 100, none, none, none, none], (List.replicate 9 0), (List.replicate 9 0)))).set 102 (zrow 0 3 2 2 2)
def hp_159 : List Row := ((((((HF.take 104).set 0 ((0, 9, [some 1, some 2, some 3, some 8, some 15, some 20, some 21, some 34, some 47, some 76, none, none, none, none, none, none], (List.replicate 16 0), (List.replicate 16 0)))).set 1 (zrow 3 6 6 0 0)).set 2 (zrow 3 4 4 0 0)).set 20 (zrow 4 3 3 0 0)).set 90 (zrow 0 1 6 6 6)).set 91 ((0, 7, [some 92, some 94, some 96, some 98, some 100, none, none, none, none], (List.replicate 9 0), (List.replicate 9 0)))
def hp_160 : List Row := (((((HF.take 104).set 0 ((0, 9, [some 1, some 2, some 3, some 8, some 15, some 20, some 21, some 34, some 47, some 76, none, none, none, none, none, none], (List.replicate 16 0), (List.replicate 16 0)))).set 1 (zrow 3 6 6 0 0)).set 2 (zrow 3 4 4 0 0)).set 20 (zrow 4 3 3 0 0)).set 90 (zrow 0 1 6 6 6)
def hp_161 : List Row := (((((HF.take 104).set 0 ((0, 9, [some 1, some 2, some 3, some 8, some 15, some 20, some 21, some 34, some 47, some 76, none, none, none, none, none, none], (List.replicate 16 0), (List.replicate 16 0)))).set 1 (zrow 3 6 6 0 0)).set 2 (zrow 3 4 4 0 0)).set 20 (zrow 4 3 3 0 0)).set 90 ((0, 1, [some 91, none, none, none, none, none], [0, 0, 0, 0, 0, 0], [0, 0, 0, 0, 0, 0]))
def hp_162 : List Row := ((((((HF.take 105).set 0 ((0, 9, [some 1, some 2, some 3, some 8, some 15, some 20, some 21, some 34, some 47, some 76, none, none, none, none, none, none], (List.replicate 16 0), (List.replicate 16 0)))).set 1 (zrow 3 6 6 0 0)).set 2 (zrow 3 4 4 0 0)).set 20 (zrow 4 3 3 0 0)).set 90 ((0, 1, [some 91, none, none, none, none, none], [0, 0, 0, 0, 0, 0], [0, 0, 0, 0, 0, 0]))).set 104 (zrow 0 3 2 2 2)
def hp_163 : List Row := (((((HF.take 106).set 0 ((0, 9, [some 1, some 2, some 3, some 8, some 15, some 20, some 21, some 34, some 47, some 76, none, none, none, none, none, none], (List.replicate 16 0), (List.replicate 16 0)))).set 1 (zrow 3 6 6 0 0)).set 2 (zrow 3 4 4 0 0)).set 20 (zrow 4 3 3 0 0)).set 90 ((0, 1, [some 91, none, none, none, none, none], [0, 0, 0, 0, 0, 0], [0, 0, 0, 0, 0, 0]))
def hp_164 : List Row := (((((HF.take 106).set 0 ((0, 9, [some 1, some 2, some 3, some 8, some 15, some 20, some 21, some 34, some 47, some 76, none, none, none, none, none, none], (List.replicate 16 0), (List.replicate 16 0)))).set 1 (zrow 3 6 6 0 0)).set 2 (zrow 3 4 4 0 0)).set 20 (zrow 4 3 3 0 0)).set 90 ((0, 1, [some 91, some 104, none, none, none, none], [0, 0, 0, 0, 0, 0], [0, 0, 0, 0, 0, 0]))
def hp_165 : List Row := ((((((HF.take 107).set 0 ((0, 9, [some 1, some 2, some 3, some 8, some 15, some 20, some 21, some 34, some 47, some 76, none, none, none, none, none, none], (List.replicate 16 0), (List.replicate 16 0)))).set 1 (zrow 3 6 6 0 0)).set 2 (zrow 3 4 4 0 0)).set 20 (zrow 4 3 3 0 0)).set 90 ((0, 1, [some 91, some 104, none, none, none, none], [0, 0, 0, 0, 0, 0], [0, 0, 0, 0, 0, 0]))).set 106 (zrow 0 3 2 2 2)
def hp_166 : List Row := (((((HF.take 108).set 0 ((0, 9, [some 1, some 2, some 3, some 8, some 15, some 20, some 21, some 34, some 47, some 76, none, none, none, none, none, none], (List.replicate 16 0), (List.replicate 16 0)))).set 1 (zrow 3 6 6 0 0)).set 2 (zrow 3 4 4 0 0)).set 20 (zrow 4 3 3 0 0)).set 90 ((0, 1, [some 91, some 104, none, none, none, none], [0, 0, 0, 0, 0, 0], [0, 0, 0, 0, 0, 0]))
def hp_167 : List Row := (((((HF.take 108).set 0 ((0, 9, [some 1, some 2, some 3, some 8, some 15, some 20, some 21, some 34, some 47, some 76, none, none, none, none, none, none], (List.replicate 16 0), (List.replicate 16 0)))).set 1 (zrow 3 6 6 0 0)).set 2 (zrow 3 4 4 0 0)).set 20 (zrow 4 3 3 0 0)).set 90 ((0, 1, [some 91, some 104, some 106, none, none, none], [0, 0, 0, 0, 0, 0], [0, 0, 0, 0, 0, 0]))
def hp_168 : List Row := ((((((HF.take 109).set 0 ((0, 9, [some 1, some 2, some 3, some 8, some 15, some 20, some 21, some 34, some 47, some 76, none, none, none, none, none, none], (List.replicate 16 0), (List.replicate 16 0)))).set 1 (zrow 3 6 6 0 0)).set 2 (zrow 3 4 4 0 0)).set 20 (zrow 4 3 3 0 0)).set 90 ((0, 1, [some 91, some 104, some 106, none, none, none], [0, 0, 0, 0, 0, 0], [0, 0, 0, 0, 0, 0]))).set 108 (zrow 0 3 2 2 2)
def hp_169 : List Row := (((((HF.take 110).set 0 ((0, 9, [some 1, some 2, some 3, some 8, some 15, some 20, some 21, some 34, some 47, some 76, none, none, none, none, none, none], (List.replicate 16 0), (List.replicate 16 0)))).set 1 (zrow 3 6 6 0 0)).set 2 (zrow 3 4 4 0 0)).set 20 (zrow 4 3 3 0 0)).set 90 ((0, 1, [some 91, some 104, some 106, none, none, none], [0, 0, 0, 0, 0, 0], [0, 0, 0, 0, 0, 0]))
def hp_170 : List Row := ((((HF.take 110).set 0 ((0, 9, [some 1, some 2, some 3, some 8, some 15, some 20, some 21, some 34, some 47, some 76, none, none, none, none, none, none], (List.replicate 16 0), (List.replicate 16 0)))).set 1 (zrow 3 6 6 0 0)).set 2 (zrow 3 4 4 0 0)).set 20 (zrow 4 3 3 0 0)
def hp_171 : List Row := ((((HF.take 110).set 0 ((0, 9, [some 1, some 2, some 3, some 8, some 15, some 20, some 21, some 34, some 47, some 76, some 90, none, none, none, none, none], (List.replicate 16 0), (List.replicate 16 0)))).set 1 (zrow 3 6 6 0 0)).set 2 (zrow 3 4 4 0 0)).set 20 (zrow 4 3 3 0 0)
def hp_172 : List Row := ((((HF.take 111).set 0 ((0, 9, [some 1, some 2, some 3, some 8, some 15, some 20, some 21, some 34, some 47, some 76, some 90, none, none, none, none, none], (List.replicate 16 0), (List.replicate 16 0)))).set 1 (zrow 3 6 6 0 0)).set 2 (zrow 3 4 4 0 0)).set 20 (zrow 4 3 3 0 0)
def hp_173 : List Row := ((((HF.take 111).set 0 ((0, 9, [some 1, some 2, some 3, some 8, some 15, some 20, some 21, some 34, some 47, some 76, some 90, some 110, none, none, none, none], (List.replicate 16 0), (List.replicate 16 0)))).set 1 (zrow 3 6 6 0 0)).set 2 (zrow 3 4 4 0 0)).set 20 (zrow 4 3 3 0 0)
def hp_174 : List Row := (((HF.take 111).set 1 (zrow 3 6 6 0 0)).set 2 (zrow 3 4 4 0 0)).set 20 (zrow 4 3 3 0 0)
def hp_175 : List Row := ((((HF.take 112).set 1 (zrow 3 6 6 0 0)).set 2 (zrow 3 4 4 0 0)).set 20 (zrow 4 3 3 0 0)).set 111 (zrow 0 3 2 2 2)
def hp_176 : List Row := (((HF.take 113).set 1 (zrow 3 6 6 0 0)).set 2 (zrow 3 4 4 0 0)).set 20 (zrow 4 3 3 0 0)
def hp_177 : List Row := (((HF.take 113).set 1 ((3, 6, [some 111, none, none, none, none, none], [], []))).set 2 (zrow 3 4 4 0 0)).set 20 (zrow 4 3 3 0 0)
def hp_178 : List Row := ((((HF.take 114).set 1 ((3, 6, [some 111, none, none, none, none, none], [], []))).set 2 (zrow 3 4 4 0 0)).set 20 (zrow 4 3 3 0 0)).set 113 (zrow 0 3 2 2 2)
def hp_179 : List Row := (((HF.take 115).set 1 ((3, 6, [some 111, none, none, none, none, none], [], []))).set 2 (zrow 3 4 4 0 0)).set 20 (zrow 4 3 3 0 0)
def hp_180 : List Row := (((HF.take 115).set 1 ((3, 6, [some 111, some 113, none, none, none, none], [], []))).set 2 (zrow 3 4 4 0 0)).set 20 (zrow 4 3 3 0 0)
def hp_181 : List Row := ((((HF.take 116).set 1 ((3, 6, [some 111, some 113, none, none, none, none], [], []))).set 2 (zrow 3 4 4 0 0)).set 20 (zrow 4 3 3 0 0)).set 115 (zrow 0 3 2 2 2)
def hp_182 : List Row := (((HF.take 117).set 1 ((3, 6, [some 111, some 113, none, none, none, none], [], []))).set 2 (zrow 3 4 4 0 0)).set 20 (zrow 4 3 3 0 0)
def hp_183 : List Row := (((HF.take 117).set 1 ((3, 6, [some 111, some 113, some 115, none, none, none], [], []))).set 2 (zrow 3 4 4 0 0)).set 20 (zrow 4 3 3 0 0)
def hp_184 : List Row := ((((HF.take 118).set 1 ((3, 6, [some 111, some 113, some 115, none, none, none], [], []))).set 2 (zrow 3 4 4 0 0)).set 20 (zrow 4 3 3 0 0)).set 117 (zrow 0 3 2 2 2)
def hp_185 : List Row := (((HF.take 119).set 1 ((3, 6, [some 111, some 113, some 115, none, none, none], [], []))).set 2 (zrow 3 4 4 0 0)).set 20 (zrow 4 3 3 0 0)
def hp_186 : List Row := (((HF.take 119).set 1 ((3, 6, [some 111, some 113, some 115, some 117, none, none], [], []))).set 2 (zrow 3 4 4 0 0)).set 20 (zrow 4 3 3 0 0)
def hp_187 : List Row := ((((HF.take 120).set 1 ((3, 6, [some 111, some 113, some 115, some 117, none, none], [], []))).set 2 (zrow 3 4 4 0 0)).set 20 (zrow 4 3 3 0 0)).set 119 (zrow 0 3 2 2 2)
def hp_188 : List Row := (((HF.take 121).set 1 ((3, 6, [some 111, some 113, some 115, some 117, none, none], [], []))).set 2 (zrow 3 4 4 0 0)).set 20 (zrow 4 3 3 0 0)
def hp_189 : List Row := (((HF.take 121).set 1 ((3, 6, [some 111, some 113, some 115, some 117, some 119, none], [], []))).set 2 (zrow 3 4 4 0 0)).set 20 (zrow 4 3 3 0 0)
def hp_190 : List Row := ((((HF.take 122).set 1 ((3, 6, [some 111, some 113, some 115, some 117, some 119, none], [], []))).set 2 (zrow 3 4 4 0 0)).set 20 (zrow 4 3 3 0 0)).set 121 (zrow 0 3 2 2 2)
def hp_191 : List Row := (((HF.take 123).set 1 ((3, 6, [some 111, some 113, some 115, some 117, some 119, none], [], []))).set 2 (zrow 3 4 4 0 0)).set 20 (zrow 4 3 3 0 0)
def hp_192 : List Row := ((HF.take 123).set 2 (zrow 3 4 4 0 0)).set 20 (zrow 4 3 3 0 0)
def hp_193 : List Row := (((HF.take 124).set 2 (zrow 3 4 4 0 0)).set 20 (zrow 4 3 3 0 0)).set 123 (zrow 0 3 2 2 2)
def hp_194 : List Row := ((HF.take 125).set 2 (zrow 3 4 4 0 0)).set 20 (zrow 4 3 3 0 0)
def hp_195 : List Row := ((HF.take 125).set 2 ((3, 4, [some 123, none, none, none], [], []))).set 20 (zrow 4 3 3 0 0)
def hp_196 : List Row := (((HF.take 126).set 2 ((3, 4, [some 123, none, none, none], [], []))).set 20 (zrow 4 3 3 0 0)).set 125 (zrow 0 3 2 2 2)
def hp_197 : List Row := ((HF.take 127).set 2 ((3, 4, [some 123, none, none, none], [], []))).set 20 (zrow 4 3 3 0 0)
def hp_198 : List Row := ((HF.take 127).set 2 ((3, 4, [some 123, some 125, none, none], [], []))).set 20 (zrow 4 3 3 0 0)
def hp_199 : List Row := (((HF.take 128).set 2 ((3, 4, [some 123, some 125, none, none], [], []))).set 20 (zrow 4 3 3 0 0)).set 127 (zrow 0 3 2 2 2)
def hp_200 : List Row := ((HF.take 129).set 2 ((3, 4, [some 123, some 125, none, none], [], []))).set 20 (zrow 4 3 3 0 0)
def hp_201 : List Row := ((HF.take 129).set 2 ((3, 4, [some 123, some 125, some 127, none], [], []))).set 20 (zrow 4 3 3 0 0)
def hp_202 : List Row := (((HF.take 130).set 2 ((3, 4, [some 123, some 125, some 127, none], [], []))).set 20 (zrow 4 3 3 0 0)).set 129 (zrow 0 3 2 2 2)
def hp_203 : List Row := ((HF.take 131).set 2 ((3, 4, [some 123, some 125, some 127, none], [], []))).set 20 (zrow 4 3 3 0 0)
def hp_204 : List Row := (HF.take 131).set 20 (zrow 4 3 3 0 0)
def hp_205 : List Row := ((HF.take 132).set 20 (zrow 4 3 3 0 0)).set 131 (zrow 0 2 7 7 7)
def hp_206 : List Row := (((HF.take 133).set 20 (zrow 4 3 3 0 0)).set 131 (zrow 0 2 7 7 7)).set 132 (zrow 0 3 2 2 2)
def hp_207 : List Row := ((HF.take 134).set 20 (zrow 4 3 3 0 0)).set 131 (zrow 0 2 7 7 7)
def hp_208 : List Row := ((HF.take 134).set 20 (zrow 4 3 3 0 0)).set 131 ((0, 2, [some 132, none, none, none, none, none, none], [0, 0, 0, 0, 0, 0, 0], [0, 0, 0, 0, 0, 0, 0]))
def hp_209 : List Row := (((HF.take 135).set 20 (zrow 4 3 3 0 0)).set 131 ((0, 2, [some 132, none, none, none, none, none, none], [0, 0, 0, 0, 0, 0, 0], [0, 0, 0, 0, 0, 0, 0]))).set 134 (zrow 0 4 1 1 1)
def hp_210 : List Row := ((HF.take 136).set 20 (zrow 4 3 3 0 0)).set 131 ((0, 2, [some 132, none, none, none, none, none, none], [0, 0, 0, 0, 0, 0, 0], [0, 0, 0, 0, 0, 0, 0]))
def hp_211 : List Row := (HF.take 136).set 20 (zrow 4 3 3 0 0)
def hp_212 : List Row := (HF.take 136).set 20 ((4, 3, [some 131, none, none], [], []))
def hp_213 : List Row := ((HF.take 137).set 20 ((4, 3, [some 131, none, none], [], []))).set 136 (zrow 0 2 7 7 7)
def hp_214 : List Row := (((HF.take 138).set 20 ((4, 3, [some 131, none, none], [], []))).set 136 (zrow 0 2 7 7 7)).set 137 (zrow 0 3 2 2 2)
def hp_215 : List Row := ((HF.take 139).set 20 ((4, 3, [some 131, none, none], [], []))).set 136 (zrow 0 2 7 7 7)
def hp_216 : List Row := ((HF.take 139).set 20 ((4, 3, [some 131, none, none], [], []))).set 136 ((0, 2, [some 137, none, none, none, none, none, none], [0, 0, 0, 0, 0, 0, 0], [0, 0, 0, 0, 0, 0, 0]))
def hp_217 : List Row := (((HF.take 140).set 20 ((4, 3, [some 131, none, none], [], []))).set 136 ((0, 2, [some 137, none, none, none, none, none, none], [0, 0, 0, 0, 0, 0, 0], [0, 0, 0, 0, 0, 0, 0]))).set 139 (zrow 0 4 1 1 1)
def hp_218 : List Row := ((HF.take 141).set 20 ((4, 3, [some 131, none, none], [], []))).set 136 ((0, 2, [some 137, none, none, none, none, none, none], [0, 0, 0, 0, 0, 0, 0], [0, 0, 0, 0, 0, 0, 0]))
def hp_219 : List Row := (HF.take 141).set 20 ((4, 3, [some 131, none, none], [], []))
def hp_220 : List Row := (HF.take 141).set 20 ((4, 3, [some 131, some 136, none], [], []))
def hp_221 : List Row := ((HF.take 142).set 20 ((4, 3, [some 131, some 136, none], [], []))).set 141 (zrow 0 2 7 7 7)
def hp_222 : List Row := (((HF.take 143).set 20 ((4, 3, [some 131, some 136, none], [], []))).set 141 (zrow 0 2 7 7 7)).set 142 (zrow 0 3 2 2 2)
def hp_223 : List Row := ((HF.take 144).set 20 ((4, 3, [some 131, some 136, none], [], []))).set 141 (zrow 0 2 7 7 7)
def hp_224 : List Row := ((HF.take 144).set 20 ((4, 3, [some 131, some 136, none], [], []))).set 141 ((0, 2, [some 142, none, none, none, none, none, none], [0, 0, 0, 0, 0, 0, 0], [0, 0, 0, 0, 0, 0, 0]))
def hp_225 : List Row := (((HF.take 145).set 20 ((4, 3, [some 131, some 136, none], [], []))).set 141 ((0, 2, [some 142, none, none, none, none, none, none], [0, 0, 0, 0, 0, 0, 0], [0, 0, 0, 0, 0, 0, 0]))).set 144 (zrow 0 4 1 1 1)
def hp_226 : List Row := ((HF.take 146).set 20 ((4, 3, [some 131, some 136, none], [], []))).set 141 ((0, 2, [some 142, none, none, none, none, none, none], [0, 0, 0, 0, 0, 0, 0], [0, 0, 0, 0, 0, 0, 0]))
def hp_227 : List Row := (HF.take 146).set 20 ((4, 3, [some 131, some 136, none], [], []))
def hp_228 : List Row := HF.take 146
def hp_229 : List Row := (HF.take 147).set 146 (zrow 0 10 53 53 53)
def hp_230 : List Row := (HF.take 148).set 146 (zrow 0 10 53 53 53)
def hp_231 : List Row := (HF.take 148).set 146 ((0, 10, [none, some 147, none, none, none, none, none, none, none, none, none, none, none, none, none, none, none, none, none, none, none, none, none, none, none, none, none, none, none, none, none, none, none, none, none, none, none, none, none, none, none, none, none, none, none, none, none, none, none, none, none, none, none], (List.replicate 53 0), (List.replicate 53 0)))
def hp_232 : List Row := (HF.take 148).set 146 ((0, 10, [none, some 147, none, none, none, none, none, none, none, none, none, none, none, none, none, none, none, none, none, none, none, none, none, none, none, none, none, none, none, none, none, none, none, none, none, none, none, none, none, none, none, none, none, none, none, none, none, none, none, none, none, none, none], (List.replicate 53 0), [0, 0, 0, 0, 1, 0, 0, 0, 0, 0, 0, 0, 0, 0, 0, 0, 0, 0, 0, 0, 0, 0, 0, 0, 0, 0, 0, 0, 0, 0, 0, 0, 0, 0, 0, 0, 0, 0, 0, 0, 0, 0, 0, 0, 0, 0, 0, 0, 0, 0, 0, 0, 0]))
def hp_233 : List Row := ((HF.take 149).set 146 ((0, 10, [none, some 147, none, none, none, none, none, none, none, none, none, none, none, none, none, none, none, none, none, none, none, none, none, none, none, none, none, none, none, none, none, none, none, none, none, none, none, none, none, none, none, none, none, none, none, none, none, none, none, none, none, none, none], (List.replicate 53 0), [0, 0, 0, 0, 1, 0, 0, 0, 0, 0, 0, 0, 0, 0, 0, 0, 0, 0, 0, 0, 0, 0, 0, 0, 0, 0, 0, 0, 0, 0, 0, 0, 0, 0, 0, 0, 0, 0, 0, 0, 0, 0, 0, 0, 0, 0, 0, 0, 0, 0, 0, 0, 0]))).set 148 (zrow 1 6 0 6 0)
def hp_234 : List Row := ((HF.take 149).set 146 ((0, 10, [none, some 147, none, none, none, some 148, none, none, none, none, none, none, none, none, none, none, none, none, none, none, none, none, none, none, none, none, none, none, none, none, none, none, none, none, none, none, none, none, none, none, none, none, none, none, none, none, none, none, none, none, none, none, none], (List.replicate 53 0), [0, 0, 0, 0, 1, 0, 0, 0, 0, 0, 0, 0, 0, 0, 0, 0, 0, 0, 0, 0, 0, 0, 0, 0, 0, 0, 0, 0, 0, 0, 0, 0, 0, 0, 0, 0, 0, 0, 0, 0, 0, 0, 0, 0, 0, 0, 0, 0, 0, 0, 0, 0, 0]))).set 148 (zrow 1 6 0 6 0)
def hp_235 : List Row := ((HF.take 150).set 146 ((0, 10, [none, some 147, none, none, none, some 148, none, none, none, none, none, none, none, none, none, none, none, none, none, none, none, none, none, none, none, none, none, none, none, none, none, none, none, none, none, none, none, none, none, none, none, none, none, none, none, none, none, none, none, none, none, none, none], (List.replicate 53 0), [0, 0, 0, 0, 1, 0, 0, 0, 0, 0, 0, 0, 0, 0, 0, 0, 0, 0, 0, 0, 0, 0, 0, 0, 0, 0, 0, 0, 0, 0, 0, 0, 0, 0, 0, 0, 0, 0, 0, 0, 0, 0, 0, 0, 0, 0, 0, 0, 0, 0, 0, 0, 0]))).set 148 (zrow 1 6 0 6 0)
def hp_236 : List Row := ((HF.take 150).set 146 ((0, 10, [none, some 147, none, none, none, some 148, some 149, none, none, none, none, none, none, none, none, none, none, none, none, none, none, none, none, none, none, none, none, none, none, none, none, none, none, none, none, none, none, none, none, none, none, none, none, none, none, none, none, none, none, none, none, none, none], (List.replicate 53 0), [0, 0, 0, 0, 1, 0, 0, 0, 0, 0, 0, 0, 0, 0, 0, 0, 0, 0, 0, 0, 0, 0, 0, 0, 0, 0, 0, 0, 0, 0, 0, 0, 0, 0, 0, 0, 0, 0, 0, 0, 0, 0, 0, 0, 0, 0, 0, 0, 0, 0, 0, 0, 0]))).set 148 (zrow 1 6 0 6 0)
def hp_237 : List Row := (((HF.take 151).set 146 ((0, 10, [none, some 147, none, none, none, some 148, some 149, none, none, none, none, none, none, none, none, none, none, none, none, none, none, none, none, none, none, none, none, none, none, none, none, none, none, none, none, none, none, none, none, none, none, none, none, none, none, none, none, none, none, none, none, none, none], (List.replicate 53 0), [0, 0, 0, 0, 1, 0, 0, 0, 0, 0, 0, 0, 0, 0, 0, 0, 0, 0, 0, 0, 0, 0, 0, 0, 0, 0, 0, 0, 0, 0, 0, 0, 0, 0, 0, 0, 0, 0, 0, 0, 0, 0, 0, 0, 0, 0, 0, 0, 0, 0, 0, 0, 0]))).set 148 (zrow 1 6 0 6 0)).set 150 (zrow 1 4 0 4 0)
def hp_238 : List Row := (((HF.take 151).set 146 ((0, 10, [none, some 147, none, none, none, some 148, some 149, some 150, none, none, none, none, none, none, none, none, none, none, none, none, none, none, none, none, none, none, none, none, none, none, none, none, none, none, none, none, none, none, none, none, none, none, none, none, none, none, none, none, none, none, none, none, none], (List.replicate 53 0), [0, 0, 0, 0, 1, 0, 0, 0, 0, 0, 0, 0, 0, 0, 0, 0, 0, 0, 0, 0, 0, 0, 0, 0, 0, 0, 0, 0, 0, 0, 0, 0, 0, 0, 0, 0, 0, 0, 0, 0, 0, 0, 0, 0, 0, 0, 0, 0, 0, 0, 0, 0, 0]))).set 148 (zrow 1 6 0 6 0)).set 150 (zrow 1 4 0 4 0)
def hp_239 : List Row := (((HF.take 152).set 146 ((0, 10, [none, some 147, none, none, none, some 148, some 149, some 150, none, none, none, none, none, none, none, none, none, none, none, none, none, none, none, none, none, none, none, none, none, none, none, none, none, none, none, none, none, none, none, none, none, none, none, none, none, none, none, none, none, none, none, none, none], (List.replicate 53 0), [0, 0, 0, 0, 1, 0, 0, 0, 0, 0, 0, 0, 0, 0, 0, 0, 0, 0, 0, 0, 0, 0, 0, 0, 0, 0, 0, 0, 0, 0, 0, 0, 0, 0, 0, 0, 0, 0, 0, 0, 0, 0, 0, 0, 0, 0, 0, 0, 0, 0, 0, 0, 0]))).set 148 (zrow 1 6 0 6 0)).set 150 (zrow 1 4 0 4 0)
def hp_240 : List Row := (((HF.take 152).set 146 ((0, 10, [none, some 147, none, none, none, some 148, some 149, some 150, some 151, none, none, none, none, none, none, none, none, none, none, none, none, none, none, none, none, none, none, none, none, none, none, none, none, none, none, none, none, none, none, none, none, none, none, none, none, none, none, none, none, none, none, none, none], (List.replicate 53 0), [0, 0, 0, 0, 1, 0, 0, 0, 0, 0, 0, 0, 0, 0, 0, 0, 0, 0, 0, 0, 0, 0, 0, 0, 0, 0, 0, 0, 0, 0, 0, 0, 0, 0, 0, 0, 0, 0, 0, 0, 0, 0, 0, 0, 0, 0, 0, 0, 0, 0, 0, 0, 0]))).set 148 (zrow 1 6 0 6 0)).set 150 (zrow 1 4 0 4 0)
def hp_241 : List Row := (((HF.take 153).set 146 ((0, 10, [none, some 147, none, none, none, some 148, some 149, some 150, some 151, none, none, none, none, none, none, none, none, none, none, none, none, none, none, none, none, none, none, none, none, none, none, none, none, none, none, none, none, none, none, none, none, none, none, none, none, none, none, none, none, none, none, none, none], (List.replicate 53 0), [0, 0, 0, 0, 1, 0, 0, 0, 0, 0, 0, 0, 0, 0, 0, 0, 0, 0, 0, 0, 0, 0, 0, 0, 0, 0, 0, 0, 0, 0, 0, 0, 0, 0, 0, 0, 0, 0, 0, 0, 0, 0, 0, 0, 0, 0, 0, 0, 0, 0, 0, 0, 0]))).set 148 (zrow 1 6 0 6 0)).set 150 (zrow 1 4 0 4 0)
def hp_242 : List Row := (((HF.take 153).set 146 ((0, 10, [none, some 147, none, none, none, some 148, some 149, some 150, some 151, none, none, none, none, none, none, some 152, none, none, none, none, none, none, none, none, none, none, none, none, none, none, none, none, none, none, none, none, none, none, none, none, none, none, none, none, none, none, none, none, none, none, none, none, none], (List.replicate 53 0), [0, 0, 0, 0, 1, 0, 0, 0, 0, 0, 0, 0, 0, 0, 0, 0, 0, 0, 0, 0, 0, 0, 0, 0, 0, 0, 0, 0, 0, 0, 0, 0, 0, 0, 0, 0, 0, 0, 0, 0, 0, 0, 0, 0, 0, 0, 0, 0, 0, 0, 0, 0, 0]))).set 148 (zrow 1 6 0 6 0)).set 150 (zrow 1 4 0 4 0)
def hp_243 : List Row := (((HF.take 154).set 146 ((0, 10, [none, some 147, none, none, none, some 148, some 149, some 150, some 151, none, none, none, none, none, none, some 152, none, none, none, none, none, none, none, none, none, none, none, none, none, none, none, none, none, none, none, none, none, none, none, none, none, none, none, none, none, none, none, none, none, none, none, none, none], (List.replicate 53 0), [0, 0, 0, 0, 1, 0, 0, 0, 0, 0, 0, 0, 0, 0, 0, 0, 0, 0, 0, 0, 0, 0, 0, 0, 0, 0, 0, 0, 0, 0, 0, 0, 0, 0, 0, 0, 0, 0, 0, 0, 0, 0, 0, 0, 0, 0, 0, 0, 0, 0, 0, 0, 0]))).set 148 (zrow 1 6 0 6 0)).set 150 (zrow 1 4 0 4 0)
def hp_244 : List Row := (((HF.take 154).set 146 ((0, 10, [none, some 147, none, none, none, some 148, some 149, some 150, some 151, none, none, none, none, none, none, some 152, some 153, none, none, none, none, none, none, none, none, none, none, none, none, none, none, none, none, none, none, none, none, none, none, none, none, none, none, none, none, none, none, none, none, none, none, none, none], (List.replicate 53 0), [0, 0, 0, 0, 1, 0, 0, 0, 0, 0, 0, 0, 0, 0, 0, 0, 0, 0, 0, 0, 0, 0, 0, 0, 0, 0, 0, 0, 0, 0, 0, 0, 0, 0, 0, 0, 0, 0, 0, 0, 0, 0, 0, 0, 0, 0, 0, 0, 0, 0, 0, 0, 0]))).set 148 (zrow 1 6 0 6 0)).set 150 (zrow 1 4 0 4 0)
def hp_245 : List Row := (((HF.take 155).set 146 ((0, 10, [none, some 147, none, none, none, some 148, some 149, some 150, some 151, none, none, none, none, none, none, some 152, some 153, none, none, none, none, none, none, none, none, none, none, none, none, none, none, none, none, none, none, none, none, none, none, none, none, none, none, none, none, none, none, none, none, none, none, none, none], (List.replicate 53 0), [0, 0, 0, 0, 1, 0, 0, 0, 0, 0, 0, 0, 0, 0, 0, 0, 0, 0, 0, 0, 0, 0, 0, 0, 0, 0, 0, 0, 0, 0, 0, 0, 0, 0, 0, 0, 0, 0, 0, 0, 0, 0, 0, 0, 0, 0, 0, 0, 0, 0, 0, 0, 0]))).set 148 (zrow 1 6 0 6 0)).set 150 (zrow 1 4 0 4 0)
def hp_246 : List Row := (((HF.take 155).set 146 ((0, 10, [none, some 147, none, none, none, some 148, some 149, some 150, some 151, none, none, none, none, none, none, some 152, some 153, none, none, none, some 154, none, none, none, none, none, none, none, none, none, none, none, none, none, none, none, none, none, none, none, none, none, none, none, none, none, none, none, none, none, none, none, none], (List.replicate 53 0), [0, 0, 0, 0, 1, 0, 0, 0, 0, 0, 0, 0, 0, 0, 0, 0, 0, 0, 0, 0, 0, 0, 0, 0, 0, 0, 0, 0, 0, 0, 0, 0, 0, 0, 0, 0, 0, 0, 0, 0, 0, 0, 0, 0, 0, 0, 0, 0, 0, 0, 0, 0, 0]))).set 148 (zrow 1 6 0 6 0)).set 150 (zrow 1 4 0 4 0)
def hp_247 : List Row := (((HF.take 156).set 146 ((0, 10, [none, some 147, none, none, none, some 148, some 149, some 150, some 151, none, none, none, none, none, none, some 152, some 153, none, none, none, some 154, none, none, none, none, none, none, none, none, none, none, none, none, none, none, none, none, none, none, none, none, none, none, none, none, none, none, none, none, none, none, none, none], (List.replicate 53 0), [0, 0, 0, 0, 1, 0, 0, 0, 0, 0, 0, 0, 0, 0, 0, 0, 0, 0, 0, 0, 0, 0, 0, 0, 0, 0, 0, 0, 0, 0, 0, 0, 0, 0, 0, 0, 0, 0, 0, 0, 0, 0, 0, 0, 0, 0, 0, 0, 0, 0, 0, 0, 0]))).set 148 (zrow 1 6 0 6 0)).set 150 (zrow 1 4 0 4 0)
def hp_248 : List Row := (((HF.take 156).set 146 ((0, 10, [none, some 147, none, none, none, some 148, some 149, some 150, some 151, none, none, none, none, none, none, some 152, some 153, none, none, none, some 154, some 155, none, none, none, none, none, none, none, none, none, none, none, none, none, none, none, none, none, none, none, none, none, none, none, none, none, none, none, none, none, none, none], (List.replicate 53 0), [0, 0, 0, 0, 1, 0, 0, 0, 0, 0, 0, 0, 0, 0, 0, 0, 0, 0, 0, 0, 0, 0, 0, 0, 0, 0, 0, 0, 0, 0, 0, 0, 0, 0, 0, 0, 0, 0, 0, 0, 0, 0, 0, 0, 0, 0, 0, 0, 0, 0, 0, 0, 0]))).set 148 (zrow 1 6 0 6 0)).set 150 (zrow 1 4 0 4 0)
def hp_249 : List Row := (((HF.take 157).set 146 ((0, 10, [none, some 147, none, none, none, some 148, some 149, some 150, some 151, none, none, none, none, none, none, some 152, some 153, none, none, none, some 154, some 155, none, none, none, none, none, none, none, none, none, none, none, none, none, none, none, none, none, none, none, none, none, none, none, none, none, none, none, none, none, none, none], (List.replicate 53 0), [0, 0, 0, 0, 1, 0, 0, 0, 0, 0, 0, 0, 0, 0, 0, 0, 0, 0, 0, 0, 0, 0, 0, 0, 0, 0, 0, 0, 0, 0, 0, 0, 0, 0, 0, 0, 0, 0, 0, 0, 0, 0, 0, 0, 0, 0, 0, 0, 0, 0, 0, 0, 0]))).set 148 (zrow 1 6 0 6 0)).set 150 (zrow 1 4 0 4 0)
def hp_250 : List Row := (((HF.take 157).set 146 ((0, 10, [none, some 147, none, none, none, some 148, some 149, some 150, some 151, none, none, none, none, none, none, some 152, some 153, none, none, none, some 154, some 155, some 156, none, none, none, none, none, none, none, none, none, none, none, none, none, none, none, none, none, none, none, none, none, none, none, none, none, none, none, none, none, none], (List.replicate 53 0), [0, 0, 0, 0, 1, 0, 0, 0, 0, 0, 0, 0, 0, 0, 0, 0, 0, 0, 0, 0, 0, 0, 0, 0, 0, 0, 0, 0, 0, 0, 0, 0, 0, 0, 0, 0, 0, 0, 0, 0, 0, 0, 0, 0, 0, 0, 0, 0, 0, 0, 0, 0, 0]))).set 148 (zrow 1 6 0 6 0)).set 150 (zrow 1 4 0 4 0)
def hp_251 : List Row := (((HF.take 157).set 146 ((0, 10, [none, some 147, none, none, none, some 148, some 149, some 150, some 151, none, none, none, none, none, none, some 152, some 153, none, none, none, some 154, some 155, some 156, none, none, none, none, none, none, none, none, none, none, none, none, none, none, none, none, none, none, none, none, none, none, none, none, none, none, none, none, none, none], (List.replicate 53 0), [0, 0, 0, 0, 1, 0, 0, 0, 0, 0, 0, 0, 0, 0, 0, 0, 0, 0, 0, 0, 0, 0, 0, 0, 1, 0, 0, 0, 0, 0, 0, 0, 0, 0, 0, 0, 0, 0, 0, 0, 0, 0, 0, 0, 0, 0, 0, 0, 0, 0, 0, 0, 0]))).set 148 (zrow 1 6 0 6 0)).set 150 (zrow 1 4 0 4 0)
def hp_252 : List Row := (((HF.take 158).set 146 ((0, 10, [none, some 147, none, none, none, some 148, some 149, some 150, some 151, none, none, none, none, none, none, some 152, some 153, none, none, none, some 154, some 155, some 156, none, none, none, none, none, none, none, none, none, none, none, none, none, none, none, none, none, none, none, none, none, none, none, none, none, none, none, none, none, none], (List.replicate 53 0), [0, 0, 0, 0, 1, 0, 0, 0, 0, 0, 0, 0, 0, 0, 0, 0, 0, 0, 0, 0, 0, 0, 0, 0, 1, 0, 0, 0, 0, 0, 0, 0, 0, 0, 0, 0, 0, 0, 0, 0, 0, 0, 0, 0, 0, 0, 0, 0, 0, 0, 0, 0, 0]))).set 148 (zrow 1 6 0 6 0)).set 150 (zrow 1 4 0 4 0)
def hp_253 : List Row := (((HF.take 158).set 146 ((0, 10, [none, some 147, none, none, none, some 148, some 149, some 150, some 151, none, none, none, none, none, none, some 152, some 153, none, none, none, some 154, some 155, some 156, none, none, some 157, none, none, none, none, none, none, none, none, none, none, none, none, none, none, none, none, none, none, none, none, none, none, none, none, none, none, none], (List.replicate 53 0), [0, 0, 0, 0, 1, 0, 0, 0, 0, 0, 0, 0, 0, 0, 0, 0, 0, 0, 0, 0, 0, 0, 0, 0, 1, 0, 0, 0, 0, 0, 0, 0, 0, 0, 0, 0, 0, 0, 0, 0, 0, 0, 0, 0, 0, 0, 0, 0, 0, 0, 0, 0, 0]))).set 148 (zrow 1 6 0 6 0)).set 150 (zrow 1 4 0 4 0)
def hp_254 : List Row := (((HF.take 159).set 146 ((0, 10, [none, some 147, none, none, none, some 148, some 149, some 150, some 151, none, none, none, none, none, none, some 152, some 153, none, none, none, some 154, some 155, some 156, none, none, some 157, none, none, none, none, none, none, none, none, none, none, none, none, none, none, none, none, none, none, none, none, none, none, none, none, none, none, none], (List.replicate 53 0), [0, 0, 0, 0, 1, 0, 0, 0, 0, 0, 0, 0, 0, 0, 0, 0, 0, 0, 0, 0, 0, 0, 0, 0, 1, 0, 0, 0, 0, 0, 0, 0, 0, 0, 0, 0, 0, 0, 0, 0, 0, 0, 0, 0, 0, 0, 0, 0, 0, 0, 0, 0, 0]))).set 148 (zrow 1 6 0 6 0)).set 150 (zrow 1 4 0 4 0)
def hp_255 : List Row := (((HF.take 159).set 146 ((0, 10, [none, some 147, none, none, none, some 148, some 149, some 150, some 151, none, none, none, none, none, none, some 152, some 153, none, none, none, some 154, some 155, some 156, none, none, some 157, some 158, none, none, none, none, none, none, none, none, none, none, none, none, none, none, none, none, none, none, none, none, none, none, none, none, none, none], (List.replicate 53 0), [0, 0, 0, 0, 1, 0, 0, 0, 0, 0, 0, 0, 0, 0, 0, 0, 0, 0, 0, 0, 0, 0, 0, 0, 1, 0, 0, 0, 0, 0, 0, 0, 0, 0, 0, 0, 0, 0, 0, 0, 0, 0, 0, 0, 0, 0, 0, 0, 0, 0, 0, 0, 0]))).set 148 (zrow 1 6 0 6 0)).set 150 (zrow 1 4 0 4 0)
def hp_256 : List Row := (((HF.take 160).set 146 ((0, 10, [none, some 147, none, none, none, some 148, some 149, some 150, some 151, none, none, none, none, none, none, some 152, some 153, none, none, none, some 154, some 155, some 156, none, none, some 157, some 158, none, none, none, none, none, none, none, none, none, none, none, none, none, none, none, none, none, none, none, none, none, none, none, none, none, none], (List.replicate 53 0), [0, 0, 0, 0, 1, 0, 0, 0, 0, 0, 0, 0, 0, 0, 0, 0, 0, 0, 0, 0, 0, 0, 0, 0, 1, 0, 0, 0, 0, 0, 0, 0, 0, 0, 0, 0, 0, 0, 0, 0, 0, 0, 0, 0, 0, 0, 0, 0, 0, 0, 0, 0, 0]))).set 148 (zrow 1 6 0 6 0)).set 150 (zrow 1 4 0 4 0)
def hp_257 : List Row := (((HF.take 160).set 146 ((0, 10, [none, some 147, none, none, none, some 148, some 149, some 150, some 151, none, none, none, none, none, none, some 152, some 153, none, none, none, some 154, some 155, some 156, none, none, some 157, some 158, some 159, none, none, none, none, none, none, none, none, none, none, none, none, none, none, none, none, none, none, none, none, none, none, none, none, none], (List.replicate 53 0), [0, 0, 0, 0, 1, 0, 0, 0, 0, 0, 0, 0, 0, 0, 0, 0, 0, 0, 0, 0, 0, 0, 0, 0, 1, 0, 0, 0, 0, 0, 0, 0, 0, 0, 0, 0, 0, 0, 0, 0, 0, 0, 0, 0, 0, 0, 0, 0, 0, 0, 0, 0, 0]))).set 148 (zrow 1 6 0 6 0)).set 150 (zrow 1 4 0 4 0)
def hp_258 : List Row := (((HF.take 160).set 146 ((0, 10, [none, some 147, none, none, none, some 148, some 149, some 150, some 151, none, none, none, none, none, none, some 152, some 153, none, none, none, some 154, some 155, some 156, none, none, some 157, some 158, some 159, none, none, none, none, none, none, none, none, none, none, none, none, none, none, none, none, none, none, none, none, none, none, none, none, none], (List.replicate 53 0), [0, 0, 0, 0, 1, 0, 0, 0, 0, 0, 0, 0, 0, 0, 0, 0, 0, 0, 0, 0, 0, 0, 0, 0, 1, 0, 0, 0, 0, 1, 0, 0, 0, 0, 0, 0, 0, 0, 0, 0, 0, 0, 0, 0, 0, 0, 0, 0, 0, 0, 0, 0, 0]))).set 148 (zrow 1 6 0 6 0)).set 150 (zrow 1 4 0 4 0)
def hp_259 : List Row := (((HF.take 161).set 146 ((0, 10, [none, some 147, none, none, none, some 148, some 149, some 150, some 151, none, none, none, none, none, none, some 152, some 153, none, none, none, some 154, some 155, some 156, none, none, some 157, some 158, some 159, none, none, none, none, none, none, none, none, none, none, none, none, none, none, none, none, none, none, none, none, none, none, none, none, none], (List.replicate 53 0), [0, 0, 0, 0, 1, 0, 0, 0, 0, 0, 0, 0, 0, 0, 0, 0, 0, 0, 0, 0, 0, 0, 0, 0, 1, 0, 0, 0, 0, 1, 0, 0, 0, 0, 0, 0, 0, 0, 0, 0, 0, 0, 0, 0, 0, 0, 0, 0, 0, 0, 0, 0, 0]))).set 148 (zrow 1 6 0 6 0)).set 150 (zrow 1 4 0 4 0)
def hp_260 : List Row := (((HF.take 161).set 146 ((0, 10, [none, some 147, none, none, none, some 148, some 149, some 150, some 151, none, none, none, none, none, none, some 152, some 153, none, none, none, some 154, some 155, some 156, none, none, some 157, some 158, some 159, none, none, none, some 160, none, none, none, none, none, none, none, none, none, none, none, none, none, none, none, none, none, none, none, none, none], (List.replicate 53 0), [0, 0, 0, 0, 1, 0, 0, 0, 0, 0, 0, 0, 0, 0, 0, 0, 0, 0, 0, 0, 0, 0, 0, 0, 1, 0, 0, 0, 0, 1, 0, 0, 0, 0, 0, 0, 0, 0, 0, 0, 0, 0, 0, 0, 0, 0, 0, 0, 0, 0, 0, 0, 0]))).set 148 (zrow 1 6 0 6 0)).set 150 (zrow 1 4 0 4 0)
def hp_261 : List Row := (((HF.take 162).set 146 ((0, 10, [none, some 147, none, none, none, some 148, some 149, some 150, some 151, none, none, none, none, none, none, some 152, some 153, none, none, none, some 154, some 155, some 156, none, none, some 157, some 158, some 159, none, none, none, some 160, none, none, none, none, none, none, none, none, none, none, none, none, none, none, none, none, none, none, none, none, none], (List.replicate 53 0), [0, 0, 0, 0, 1, 0, 0, 0, 0, 0, 0, 0, 0, 0, 0, 0, 0, 0, 0, 0, 0, 0, 0, 0, 1, 0, 0, 0, 0, 1, 0, 0, 0, 0, 0, 0, 0, 0, 0, 0, 0, 0, 0, 0, 0, 0, 0, 0, 0, 0, 0, 0, 0]))).set 148 (zrow 1 6 0 6 0)).set 150 (zrow 1 4 0 4 0)
def hp_262 : List Row := (((HF.take 162).set 146 ((0, 10, [none, some 147, none, none, none, some 148, some 149, some 150, some 151, none, none, none, none, none, none, some 152, some 153, none, none, none, some 154, some 155, some 156, none, none, some 157, some 158, some 159, none, none, none, some 160, none, some 161, none, none, none, none, none, none, none, none, none, none, none, none, none, none, none, none, none, none, none], (List.replicate 53 0), [0, 0, 0, 0, 1, 0, 0, 0, 0, 0, 0, 0, 0, 0, 0, 0, 0, 0, 0, 0, 0, 0, 0, 0, 1, 0, 0, 0, 0, 1, 0, 0, 0, 0, 0, 0, 0, 0, 0, 0, 0, 0, 0, 0, 0, 0, 0, 0, 0, 0, 0, 0, 0]))).set 148 (zrow 1 6 0 6 0)).set 150 (zrow 1 4 0 4 0)
def hp_263 : List Row := (((HF.take 163).set 146 ((0, 10, [none, some 147, none, none, none, some 148, some 149, some 150, some 151, none, none, none, none, none, none, some 152, some 153, none, none, none, some 154, some 155, some 156, none, none, some 157, some 158, some 159, none, none, none, some 160, none, some 161, none, none, none, none, none, none, none, none, none, none, none, none, none, none, none, none, none, none, none], (List.replicate 53 0), [0, 0, 0, 0, 1, 0, 0, 0, 0, 0, 0, 0, 0, 0, 0, 0, 0, 0, 0, 0, 0, 0, 0, 0, 1, 0, 0, 0, 0, 1, 0, 0, 0, 0, 0, 0, 0, 0, 0, 0, 0, 0, 0, 0, 0, 0, 0, 0, 0, 0, 0, 0, 0]))).set 148 (zrow 1 6 0 6 0)).set 150 (zrow 1 4 0 4 0)
def hp_264 : List Row := (((HF.take 163).set 146 ((0, 10, [none, some 147, none, none, none, some 148, some 149, some 150, some 151, none, none, none, none, none, none, some 152, some 153, none, none, none, some 154, some 155, some 156, none, none, some 157, some 158, some 159, none, none, none, some 160, none, some 161, some 162, none, none, none, none, none, none, none, none, none, none, none, none, none, none, none, none, none, none], (List.replicate 53 0), [0, 0, 0, 0, 1, 0, 0, 0, 0, 0, 0, 0, 0, 0, 0, 0, 0, 0, 0, 0, 0, 0, 0, 0, 1, 0, 0, 0, 0, 1, 0, 0, 0, 0, 0, 0, 0, 0, 0, 0, 0, 0, 0, 0, 0, 0, 0, 0, 0, 0, 0, 0, 0]))).set 148 (zrow 1 6 0 6 0)).set 150 (zrow 1 4 0 4 0)
def hp_265 : List Row := (((HF.take 163).set 146 ((0, 10, [none, some 147, none, none, none, some 148, some 149, some 150, some 151, none, none, none, none, none, none, some 152, some 153, none, none, none, some 154, some 155, some 156, none, none, some 157, some 158, some 159, none, none, none, some 160, none, some 161, some 162, none, none, none, none, none, none, none, none, none, none, none, none, none, none, none, none, none, none], (List.replicate 53 0), [0, 0, 0, 0, 1, 0, 0, 0, 0, 0, 0, 0, 0, 0, 0, 0, 0, 0, 0, 0, 0, 0, 0, 0, 1, 0, 0, 0, 0, 1, 0, 0, 0, 0, 0, 0, 1, 0, 0, 0, 0, 0, 0, 0, 0, 0, 0, 0, 0, 0, 0, 0, 0]))).set 148 (zrow 1 6 0 6 0)).set 150 (zrow 1 4 0 4 0)
def hp_266 : List Row := ((((HF.take 164).set 146 ((0, 10, [none, some 147, none, none, none, some 148, some 149, some 150, some 151, none, none, none, none, none, none, some 152, some 153, none, none, none, some 154, some 155, some 156, none, none, some 157, some 158, some 159, none, none, none, some 160, none, some 161, some 162, none, none, none, none, none, none, none, none, none, none, none, none, none, none, none, none, none, none], (List.replicate 53 0), [0, 0, 0, 0, 1, 0, 0, 0, 0, 0, 0, 0, 0, 0, 0, 0, 0, 0, 0, 0, 0, 0, 0, 0, 1, 0, 0, 0, 0, 1, 0, 0, 0, 0, 0, 0, 1, 0, 0, 0, 0, 0, 0, 0, 0, 0, 0, 0, 0, 0, 0, 0, 0]))).set 148 (zrow 1 6 0 6 0)).set 150 (zrow 1 4 0 4 0)).set 163 (zrow 1 3 0 3 0)
def hp_267 : List Row := ((((HF.take 164).set 146 ((0, 10, [none, some 147, none, none, none, some 148, some 149, some 150, some 151, none, none, none, none, none, none, some 152, some 153, none, none, none, some 154, some 155, some 156, none, none, some 157, some 158, some 159, none, none, none, some 160, none, some 161, some 162, none, none, some 163, none, none, none, none, none, none, none, none, none, none, none, none, none, none, none], (List.replicate 53 0), [0, 0, 0, 0, 1, 0, 0, 0, 0, 0, 0, 0, 0, 0, 0, 0, 0, 0, 0, 0, 0, 0, 0, 0, 1, 0, 0, 0, 0, 1, 0, 0, 0, 0, 0, 0, 1, 0, 0, 0, 0, 0, 0, 0, 0, 0, 0, 0, 0, 0, 0, 0, 0]))).set 148 (zrow 1 6 0 6 0)).set 150 (zrow 1 4 0 4 0)).set 163 (zrow 1 3 0 3 0)
def hp_268 : List Row := ((((HF.take 165).set 146 ((0, 10, [none, some 147, none, none, none, some 148, some 149, some 150, some 151, none, none, none, none, none, none, some 152, some 153, none, none, none, some 154, some 155, some 156, none, none, some 157, some 158, some 159, none, none, none, some 160, none, some 161, some 162, none, none, some 163, none, none, none, none, none, none, none, none, none, none, none, none, none, none, none], (List.replicate 53 0), [0, 0, 0, 0, 1, 0, 0, 0, 0, 0, 0, 0, 0, 0, 0, 0, 0, 0, 0, 0, 0, 0, 0, 0, 1, 0, 0, 0, 0, 1, 0, 0, 0, 0, 0, 0, 1, 0, 0, 0, 0, 0, 0, 0, 0, 0, 0, 0, 0, 0, 0, 0, 0]))).set 148 (zrow 1 6 0 6 0)).set 150 (zrow 1 4 0 4 0)).set 163 (zrow 1 3 0 3 0)
def hp_269 : List Row := ((((HF.take 165).set 146 ((0, 10, [none, some 147, none, none, none, some 148, some 149, some 150, some 151, none, none, none, none, none, none, some 152, some 153, none, none, none, some 154, some 155, some 156, none, none, some 157, some 158, some 159, none, none, none, some 160, none, some 161, some 162, none, none, some 163, some 164, none, none, none, none, none, none, none, none, none, none, none, none, none, none], (List.replicate 53 0), [0, 0, 0, 0, 1, 0, 0, 0, 0, 0, 0, 0, 0, 0, 0, 0, 0, 0, 0, 0, 0, 0, 0, 0, 1, 0, 0, 0, 0, 1, 0, 0, 0, 0, 0, 0, 1, 0, 0, 0, 0, 0, 0, 0, 0, 0, 0, 0, 0, 0, 0, 0, 0]))).set 148 (zrow 1 6 0 6 0)).set 150 (zrow 1 4 0 4 0)).set 163 (zrow 1 3 0 3 0)
def hp_270 : List Row := ((((HF.take 166).set 146 ((0, 10, [none, some 147, none, none, none, some 148, some 149, some 150, some 151, none, none, none, none, none, none, some 152, some 153, none, none, none, some 154, some 155, some 156, none, none, some 157, some 158, some 159, none, none, none, some 160, none, some 161, some 162, none, none, some 163, some 164, none, none, none, none, none, none, none, none, none, none, none, none, none, none], (List.replicate 53 0), [0, 0, 0, 0, 1, 0, 0, 0, 0, 0, 0, 0, 0, 0, 0, 0, 0, 0, 0, 0, 0, 0, 0, 0, 1, 0, 0, 0, 0, 1, 0, 0, 0, 0, 0, 0, 1, 0, 0, 0, 0, 0, 0, 0, 0, 0, 0, 0, 0, 0, 0, 0, 0]))).set 148 (zrow 1 6 0 6 0)).set 150 (zrow 1 4 0 4 0)).set 163 (zrow 1 3 0 3 0)
def hp_271 : List Row := ((((HF.take 166).set 146 ((0, 10, [none, some 147, none, none, none, some 148, some 149, some 150, some 151, none, none, none, none, none, none, some 152, some 153, none, none, none, some 154, some 155, some 156, none, none, some 157, some 158, some 159, none, none, none, some 160, none, some 161, some 162, none, none, some 163, some 164, some 165, none, none, none, none, none, none, none, none, none, none, none, none, none], (List.replicate 53 0), [0, 0, 0, 0, 1, 0, 0, 0, 0, 0, 0, 0, 0, 0, 0, 0, 0, 0, 0, 0, 0, 0, 0, 0, 1, 0, 0, 0, 0, 1, 0, 0, 0, 0, 0, 0, 1, 0, 0, 0, 0, 0, 0, 0, 0, 0, 0, 0, 0, 0, 0, 0, 0]))).set 148 (zrow 1 6 0 6 0)).set 150 (zrow 1 4 0 4 0)).set 163 (zrow 1 3 0 3 0)
def hp_272 : List Row := ((((HF.take 167).set 146 ((0, 10, [none, some 147, none, none, none, some 148, some 149, some 150, some 151, none, none, none, none, none, none, some 152, some 153, none, none, none, some 154, some 155, some 156, none, none, some 157, some 158, some 159, none, none, none, some 160, none, some 161, some 162, none, none, some 163, some 164, some 165, none, none, none, none, none, none, none, none, none, none, none, none, none], (List.replicate 53 0), [0, 0, 0, 0, 1, 0, 0, 0, 0, 0, 0, 0, 0, 0, 0, 0, 0, 0, 0, 0, 0, 0, 0, 0, 1, 0, 0, 0, 0, 1, 0, 0, 0, 0, 0, 0, 1, 0, 0, 0, 0, 0, 0, 0, 0, 0, 0, 0, 0, 0, 0, 0, 0]))).set 148 (zrow 1 6 0 6 0)).set 150 (zrow 1 4 0 4 0)).set 163 (zrow 1 3 0 3 0)
def hp_273 : List Row := ((((HF.take 167).set 146 ((0, 10, [none, some 147, none, none, none, some 148, some 149, some 150, some 151, none, none, none, none, none, none, some 152, some 153, none, none, none, some 154, some 155, some 156, none, none, some 157, some 158, some 159, none, none, none, some 160, none, some 161, some 162, none, none, some 163, some 164, some 165, some 166, none, none, none, none, none, none, none, none, none, none, none, none], (List.replicate 53 0), [0, 0, 0, 0, 1, 0, 0, 0, 0, 0, 0, 0, 0, 0, 0, 0, 0, 0, 0, 0, 0, 0, 0, 0, 1, 0, 0, 0, 0, 1, 0, 0, 0, 0, 0, 0, 1, 0, 0, 0, 0, 0, 0, 0, 0, 0, 0, 0, 0, 0, 0, 0, 0]))).set 148 (zrow 1 6 0 6 0)).set 150 (zrow 1 4 0 4 0)).set 163 (zrow 1 3 0 3 0)
def hp_274 : List Row := ((((HF.take 168).set 146 ((0, 10, [none, some 147, none, none, none, some 148, some 149, some 150, some 151, none, none, none, none, none, none, some 152, some 153, none, none, none, some 154, some 155, some 156, none, none, some 157, some 158, some 159, none, none, none, some 160, none, some 161, some 162, none, none, some 163, some 164, some 165, some 166, none, none, none, none, none, none, none, none, none, none, none, none], (List.replicate 53 0), [0, 0, 0, 0, 1, 0, 0, 0, 0, 0, 0, 0, 0, 0, 0, 0, 0, 0, 0, 0, 0, 0, 0, 0, 1, 0, 0, 0, 0, 1, 0, 0, 0, 0, 0, 0, 1, 0, 0, 0, 0, 0, 0, 0, 0, 0, 0, 0, 0, 0, 0, 0, 0]))).set 148 (zrow 1 6 0 6 0)).set 150 (zrow 1 4 0 4 0)).set 163 (zrow 1 3 0 3 0)
def hp_275 : List Row := ((((HF.take 168).set 146 ((0, 10, [none, some 147, none, none, none, some 148, some 149, some 150, some 151, none, none, none, none, none, none, some 152, some 153, none, none, none, some 154, some 155, some 156, none, none, some 157, some 158, some 159, none, none, none, some 160, none, some 161, some 162, none, none, some 163, some 164, some 165, some 166, some 167, none, none, none, none, none, none, none, none, none, none, none], (List.replicate 53 0), [0, 0, 0, 0, 1, 0, 0, 0, 0, 0, 0, 0, 0, 0, 0, 0, 0, 0, 0, 0, 0, 0, 0, 0, 1, 0, 0, 0, 0, 1, 0, 0, 0, 0, 0, 0, 1, 0, 0, 0, 0, 0, 0, 0, 0, 0, 0, 0, 0, 0, 0, 0, 0]))).set 148 (zrow 1 6 0 6 0)).set 150 (zrow 1 4 0 4 0)).set 163 (zrow 1 3 0 3 0)
def hp_276 : List Row := ((((HF.take 169).set 146 ((0, 10, [none, some 147, none, none, none, some 148, some 149, some 150, some 151, none, none, none, none, none, none, some 152, some 153, none, none, none, some 154, some 155, some 156, none, none, some 157, some 158, some 159, none, none, none, some 160, none, some 161, some 162, none, none, some 163, some 164, some 165, some 166, some 167, none, none, none, none, none, none, none, none, none, none, none], (List.replicate 53 0), [0, 0, 0, 0, 1, 0, 0, 0, 0, 0, 0, 0, 0, 0, 0, 0, 0, 0, 0, 0, 0, 0, 0, 0, 1, 0, 0, 0, 0, 1, 0, 0, 0, 0, 0, 0, 1, 0, 0, 0, 0, 0, 0, 0, 0, 0, 0, 0, 0, 0, 0, 0, 0]))).set 148 (zrow 1 6 0 6 0)).set 150 (zrow 1 4 0 4 0)).set 163 (zrow 1 3 0 3 0)
def hp_277 : List Row := ((((HF.take 169).set 146 ((0, 10, [none, some 147, none, none, none, some 148, some 149, some 150, some 151, none, none, none, none, none, none, some 152, some 153, none, none, none, some 154, some 155, some 156, none, none, some 157, some 158, some 159, none, none, none, some 160, none, some 161, some 162, none, none, some 163, some 164, some 165, some 166, some 167, some 168, none, none, none, none, none, none, none, none, none, none], (List.replicate 53 0), [0, 0, 0, 0, 1, 0, 0, 0, 0, 0, 0, 0, 0, 0, 0, 0, 0, 0, 0, 0, 0, 0, 0, 0, 1, 0, 0, 0, 0, 1, 0, 0, 0, 0, 0, 0, 1, 0, 0, 0, 0, 0, 0, 0, 0, 0, 0, 0, 0, 0, 0, 0, 0]))).set 148 (zrow 1 6 0 6 0)).set 150 (zrow 1 4 0 4 0)).set 163 (zrow 1 3 0 3 0)
def hp_278 : List Row := ((((HF.take 170).set 146 ((0, 10, [none, some 147, none, none, none, some 148, some 149, some 150, some 151, none, none, none, none, none, none, some 152, some 153, none, none, none, some 154, some 155, some 156, none, none, some 157, some 158, some 159, none, none, none, some 160, none, some 161, some 162, none, none, some 163, some 164, some 165, some 166, some 167, some 168, none, none, none, none, none, none, none, none, none, none], (List.replicate 53 0), [0, 0, 0, 0, 1, 0, 0, 0, 0, 0, 0, 0, 0, 0, 0, 0, 0, 0, 0, 0, 0, 0, 0, 0, 1, 0, 0, 0, 0, 1, 0, 0, 0, 0, 0, 0, 1, 0, 0, 0, 0, 0, 0, 0, 0, 0, 0, 0, 0, 0, 0, 0, 0]))).set 148 (zrow 1 6 0 6 0)).set 150 (zrow 1 4 0 4 0)).set 163 (zrow 1 3 0 3 0)
def hp_279 : List Row := ((((HF.take 170).set 146 ((0, 10, [none, some 147, none, none, none, some 148, some 149, some 150, some 151, none, none, none, none, none, none, some 152, some 153, none, none, none, some 154, some 155, some 156, none, none, some 157, some 158, some 159, none, none, none, some 160, none, some 161, some 162, none, none, some 163, some 164, some 165, some 166, some 167, some 168, some 169, none, none, none, none, none, none, none, none, none], (List.replicate 53 0), [0, 0, 0, 0, 1, 0, 0, 0, 0, 0, 0, 0, 0, 0, 0, 0, 0, 0, 0, 0, 0, 0, 0, 0, 1, 0, 0, 0, 0, 1, 0, 0, 0, 0, 0, 0, 1, 0, 0, 0, 0, 0, 0, 0, 0, 0, 0, 0, 0, 0, 0, 0, 0]))).set 148 (zrow 1 6 0 6 0)).set 150 (zrow 1 4 0 4 0)).set 163 (zrow 1 3 0 3 0)
def hp_280 : List Row := ((((HF.take 171).set 146 ((0, 10, [none, some 147, none, none, none, some 148, some 149, some 150, some 151, none, none, none, none, none, none, some 152, some 153, none, none, none, some 154, some 155, some 156, none, none, some 157, some 158, some 159, none, none, none, some 160, none, some 161, some 162, none, none, some 163, some 164, some 165, some 166, some 167, some 168, some 169, none, none, none, none, none, none, none, none, none], (List.replicate 53 0), [0, 0, 0, 0, 1, 0, 0, 0, 0, 0, 0, 0, 0, 0, 0, 0, 0, 0, 0, 0, 0, 0, 0, 0, 1, 0, 0, 0, 0, 1, 0, 0, 0, 0, 0, 0, 1, 0, 0, 0, 0, 0, 0, 0, 0, 0, 0, 0, 0, 0, 0, 0, 0]))).set 148 (zrow 1 6 0 6 0)).set 150 (zrow 1 4 0 4 0)).set 163 (zrow 1 3 0 3 0)
def hp_281 : List Row := ((((HF.take 171).set 146 ((0, 10, [none, some 147, none, none, none, some 148, some 149, some 150, some 151, none, none, none, none, none, none, some 152, some 153, none, none, none, some 154, some 155, some 156, none, none, some 157, some 158, some 159, none, none, none, some 160, none, some 161, some 162, none, none, some 163, some 164, some 165, some 166, some 167, some 168, some 169, some 170, none, none, none, none, none, none, none, none], (List.replicate 53 0), [0, 0, 0, 0, 1, 0, 0, 0, 0, 0, 0, 0, 0, 0, 0, 0, 0, 0, 0, 0, 0, 0, 0, 0, 1, 0, 0, 0, 0, 1, 0, 0, 0, 0, 0, 0, 1, 0, 0, 0, 0, 0, 0, 0, 0, 0, 0, 0, 0, 0, 0, 0, 0]))).set 148 (zrow 1 6 0 6 0)).set 150 (zrow 1 4 0 4 0)).set 163 (zrow 1 3 0 3 0)
def hp_282 : List Row := ((((HF.take 172).set 146 ((0, 10, [none, some 147, none, none, none, some 148, some 149, some 150, some 151, none, none, none, none, none, none, some 152, some 153, none, none, none, some 154, some 155, some 156, none, none, some 157, some 158, some 159, none, none, none, some 160, none, some 161, some 162, none, none, some 163, some 164, some 165, some 166, some 167, some 168, some 169, some 170, none, none, none, none, none, none, none, none], (List.replicate 53 0), [0, 0, 0, 0, 1, 0, 0, 0, 0, 0, 0, 0, 0, 0, 0, 0, 0, 0, 0, 0, 0, 0, 0, 0, 1, 0, 0, 0, 0, 1, 0, 0, 0, 0, 0, 0, 1, 0, 0, 0, 0, 0, 0, 0, 0, 0, 0, 0, 0, 0, 0, 0, 0]))).set 148 (zrow 1 6 0 6 0)).set 150 (zrow 1 4 0 4 0)).set 163 (zrow 1 3 0 3 0)
def hp_283 : List Row := ((((HF.take 172).set 146 ((0, 10, [none, some 147, none, none, none, some 148, some 149, some 150, some 151, none, none, none, none, none, none, some 152, some 153, none, none, none, some 154, some 155, some 156, none, none, some 157, some 158, some 159, none, none, none, some 160, none, some 161, some 162, none, none, some 163, some 164, some 165, some 166, some 167, some 168, some 169, some 170, some 171, none, none, none, none, none, none, none], (List.replicate 53 0), [0, 0, 0, 0, 1, 0, 0, 0, 0, 0, 0, 0, 0, 0, 0, 0, 0, 0, 0, 0, 0, 0, 0, 0, 1, 0, 0, 0, 0, 1, 0, 0, 0, 0, 0, 0, 1, 0, 0, 0, 0, 0, 0, 0, 0, 0, 0, 0, 0, 0, 0, 0, 0]))).set 148 (zrow 1 6 0 6 0)).set 150 (zrow 1 4 0 4 0)).set 163 (zrow 1 3 0 3 0)
def hp_284 : List Row := ((((HF.take 173).set 146 ((0, 10, [none, some 147, none, none, none, some 148, some 149, some 150, some 151, none, none, none, none, none, none, some 152, some 153, none, none, none, some 154, some 155, some 156, none, none, some 157, some 158, some 159, none, none, none, some 160, none, some 161, some 162, none, none, some 163, some 164, some 165, some 166, some 167, some 168, some 169, some 170, some 171, none, none, none, none, none, none, none], (List.replicate 53 0), [0, 0, 0, 0, 1, 0, 0, 0, 0, 0, 0, 0, 0, 0, 0, 0, 0, 0, 0, 0, 0, 0, 0, 0, 1, 0, 0, 0, 0, 1, 0, 0, 0, 0, 0, 0, 1, 0, 0, 0, 0, 0, 0, 0, 0, 0, 0, 0, 0, 0, 0, 0, 0]))).set 148 (zrow 1 6 0 6 0)).set 150 (zrow 1 4 0 4 0)).set 163 (zrow 1 3 0 3 0)
def hp_285 : List Row := ((((HF.take 173).set 146 ((0, 10, [none, some 147, none, none, none, some 148, some 149, some 150, some 151, none, none, none, none, none, none, some 152, some 153, none, none, none, some 154, some 155, some 156, none, none, some 157, some 158, some 159, none, none, none, some 160, none, some 161, some 162, none, none, some 163, some 164, some 165, some 166, some 167, some 168, some 169, some 170, some 171, some 172, none, none, none, none, none, none], (List.replicate 53 0), [0, 0, 0, 0, 1, 0, 0, 0, 0, 0, 0, 0, 0, 0, 0, 0, 0, 0, 0, 0, 0, 0, 0, 0, 1, 0, 0, 0, 0, 1, 0, 0, 0, 0, 0, 0, 1, 0, 0, 0, 0, 0, 0, 0, 0, 0, 0, 0, 0, 0, 0, 0, 0]))).set 148 (zrow 1 6 0 6 0)).set 150 (zrow 1 4 0 4 0)).set 163 (zrow 1 3 0 3 0)
def hp_286 : List Row := ((((HF.take 174).set 146 ((0, 10, [none, some 147, none, none, none, some 148, some 149, some 150, some 151, none, none, none, none, none, none, some 152, some 153, none, none, none, some 154, some 155, some 156, none, none, some 157, some 158, some 159, none, none, none, some 160, none, some 161, some 162, none, none, some 163, some 164, some 165, some 166, some 167, some 168, some 169, some 170, some 171, some 172, none, none, none, none, none, none], (List.replicate 53 0), [0, 0, 0, 0, 1, 0, 0, 0, 0, 0, 0, 0, 0, 0, 0, 0, 0, 0, 0, 0, 0, 0, 0, 0, 1, 0, 0, 0, 0, 1, 0, 0, 0, 0, 0, 0, 1, 0, 0, 0, 0, 0, 0, 0, 0, 0, 0, 0, 0, 0, 0, 0, 0]))).set 148 (zrow 1 6 0 6 0)).set 150 (zrow 1 4 0 4 0)).set 163 (zrow 1 3 0 3 0)
def hp_287 : List Row := ((((HF.take 174).set 146 ((0, 10, [none, some 147, none, none, none, some 148, some 149, some 150, some 151, none, none, none, none, none, none, some 152, some 153, none, none, none, some 154, some 155, some 156, none, none, some 157, some 158, some 159, none, none, none, some 160, none, some 161, some 162, none, none, some 163, some 164, some 165, some 166, some 167, some 168, some 169, some 170, some 171, some 172, none, none, none, none, some 173, none], (List.replicate 53 0), [0, 0, 0, 0, 1, 0, 0, 0, 0, 0, 0, 0, 0, 0, 0, 0, 0, 0, 0, 0, 0, 0, 0, 0, 1, 0, 0, 0, 0, 1, 0, 0, 0, 0, 0, 0, 1, 0, 0, 0, 0, 0, 0, 0, 0, 0, 0, 0, 0, 0, 0, 0, 0]))).set 148 (zrow 1 6 0 6 0)).set 150 (zrow 1 4 0 4 0)).set 163 (zrow 1 3 0 3 0)
def hp_288 : List Row := ((((HF).set 146 ((0, 10, [none, some 147, none, none, none, some 148, some 149, some 150, some 151, none, none, none, none, none, none, some 152, some 153, none, none, none, some 154, some 155, some 156, none, none, some 157, some 158, some 159, none, none, none, some 160, none, some 161, some 162, none, none, some 163, some 164, some 165, some 166, some 167, some 168, some 169, some 170, some 171, some 172, none, none, none, none, some 173, none], (List.replicate 53 0), [0, 0, 0, 0, 1, 0, 0, 0, 0, 0, 0, 0, 0, 0, 0, 0, 0, 0, 0, 0, 0, 0, 0, 0, 1, 0, 0, 0, 0, 1, 0, 0, 0, 0, 0, 0, 1, 0, 0, 0, 0, 0, 0, 0, 0, 0, 0, 0, 0, 0, 0, 0, 0]))).set 148 (zrow 1 6 0 6 0)).set 150 (zrow 1 4 0 4 0)).set 163 (zrow 1 3 0 3 0)
def hp_289 : List Row := (((HF).set 148 (zrow 1 6 0 6 0)).set 150 (zrow 1 4 0 4 0)).set 163 (zrow 1 3 0 3 0)
def hp_290 : List Row := (((HF).set 148 ((1, 6, [], [(-1), 0, 0, 0, 0, 0], []))).set 150 (zrow 1 4 0 4 0)).set 163 (zrow 1 3 0 3 0)
def hp_291 : List Row := (((HF).set 148 ((1, 6, [], [(-1), (-1), 0, 0, 0, 0], []))).set 150 (zrow 1 4 0 4 0)).set 163 (zrow 1 3 0 3 0)
def hp_292 : List Row := (((HF).set 148 ((1, 6, [], [(-1), (-1), (-1), 0, 0, 0], []))).set 150 (zrow 1 4 0 4 0)).set 163 (zrow 1 3 0 3 0)
def hp_293 : List Row := (((HF).set 148 ((1, 6, [], [(-1), (-1), (-1), (-1), 0, 0], []))).set 150 (zrow 1 4 0 4 0)).set 163 (zrow 1 3 0 3 0)
def hp_294 : List Row := (((HF).set 148 ((1, 6, [], [(-1), (-1), (-1), (-1), (-1), 0], []))).set 150 (zrow 1 4 0 4 0)).set 163 (zrow 1 3 0 3 0)
def hp_295 : List Row := ((HF).set 150 (zrow 1 4 0 4 0)).set 163 (zrow 1 3 0 3 0)
def hp_296 : List Row := ((HF).set 150 ((1, 4, [], [(-1), 0, 0, 0], []))).set 163 (zrow 1 3 0 3 0)
def hp_297 : List Row := ((HF).set 150 ((1, 4, [], [(-1), (-1), 0, 0], []))).set 163 (zrow 1 3 0 3 0)
def hp_298 : List Row := ((HF).set 150 ((1, 4, [], [(-1), (-1), (-1), 0], []))).set 163 (zrow 1 3 0 3 0)
def hp_299 : List Row := (HF).set 163 (zrow 1 3 0 3 0)
def hp_300 : List Row := (HF).set 163 ((1, 3, [], [(-1), 0, 0], []))
def hp_301 : List Row := (HF).set 163 ((1, 3, [], [(-1), (-1), 0], []))
def hp_302 : List Row := HF

def rowD3 : DecidableEq (List (Option Nat) × List Int32 × List Int64) := inferInstance
def rowD2 : DecidableEq (Nat × List (Option Nat) × List Int32 × List Int64) := @instDecidableEqProd _ _ inferInstance rowD3
def rowD1 : DecidableEq Row := @instDecidableEqProd Nat (Nat × List (Option Nat) × List Int32 × List Int64) inferInstance rowD2
def rowD0 : DecidableEq (List Row) := @instDecidableEqList Row rowD1
theorem rq {x y : List Row} (h : @decide (x = y) (rowD0 x y) = true) : x = y := @of_decide_eq_true _ (rowD0 x y) h
section NR
variable {m : Mth} {d u1 u2 mc ms pc pc' : Nat} {L L' : List (Nat × Value)} {h h' h9 : List Row}
theorem N_ret (f : D1 m pc .return_ 1 pc') (hr : m.2.2.2.2 = none) (h1 : u1 ≤ mc) (h2 : u2 ≤ ms) (e : h = h9) : VH m d u1 u2 mc ms pc L [] h h9 := by
  subst e
  exact V_vret f hr h1 h2 ⟨rfl, rfl, rfl, rfl, rfl⟩
end NR
theorem n_ints {a N q : Nat} {n z : Int32} {h h' : List Row} (hq : h.length = q) (hn : ¬ n ≤ 0) (hN : n.toNatClampNeg = N) (hb : N ≤ 1000) (s1 : (hS (h ++ [zrow 1 N 0 N 0]))[a]? = some (0, 3)) (o1 : okR (h ++ [zrow 1 N 0 N 0]) a 0 = true) (s2 : (hS (pR (h ++ [zrow 1 N 0 N 0]) a 0 (some q)))[a]? = some (0, 3)) (s3 : (hS (pR (h ++ [zrow 1 N 0 N 0]) a 0 (some q)))[q]? = some (1, N)) (o2 : okI (pR (h ++ [zrow 1 N 0 N 0]) a 0 (some q)) a 1 = true) (e : qI (pR (h ++ [zrow 1 N 0 N 0]) a 0 (some q)) a 1 (minI z (Int32.ofNat N)) = h') : CtH 2 m_X3_init [.ref a, .int n, .int z] h 1 N h' := by
  refine CtH_of (by decide) rfl (Nat.le_of_ble_eq_true rfl) ?_
  refine V_al i_X3_init_0 rfl ?_
  refine V_objInit i_X3_init_1 (by decide) (Nat.le_of_ble_eq_true rfl) w_oi1 w_oi2 ?_
  refine V_al i_X3_init_4 rfl ?_
  refine V_il i_X3_init_5 rfl ?_
  refine V_if_le_f i_X3_init_6 hn ?_
  refine V_il i_X3_init_9 rfl ?_
  refine V_goto i_X3_init_10 ?_
  refine N_newI (N := N) (q := q) i_X3_init_14 (fun g => hn (Int32.le_of_lt g)) hN hb (Nat.le_refl _) (by omega) rfl hq ?_
  refine N_putR i_X3_init_16 s1 rfl (by intro C T N h; cases h; rfl) (fun q => rfl) (fun q => rfl) o1 rfl ?_
  refine V_al i_X3_init_19 rfl ?_
  refine V_il i_X3_init_20 rfl ?_
  refine V_al i_X3_init_21 rfl ?_
  refine V_getR (a2 := q) i_X3_init_22 s2 (by rw [pR_R o1]; unfold uR; rw [if_pos ⟨rfl, rfl⟩]) ?_
  refine V_alenI i_X3_init_25 s3 rfl ?_
  refine V_min i_X3_init_26 (by decide) (Nat.le_refl _) (by omega) (Nat.le_of_ble_eq_true rfl) ?_
  refine N_putI i_X3_init_29 s2 o2 e ?_
  exact N_ret i_X3_init_32 rfl (Nat.le_refl _) (by omega) rfl
theorem n_longs {a N q : Nat} {n : Int32} {h h' : List Row} (hq : h.length = q) (hn : ¬ n ≤ 0) (hN : n.toNatClampNeg = N) (hb : N ≤ 1000) (s1 : (hS (h ++ [zrow 2 N 0 0 N]))[a]? = some (0, 4)) (o1 : okR (h ++ [zrow 2 N 0 0 N]) a 0 = true) (e : pR (h ++ [zrow 2 N 0 0 N]) a 0 (some q) = h') (_ : True) : CtH 2 m_X4_init [.ref a, .int n] h 1 N h' := by
  refine CtH_of (by decide) rfl (Nat.le_of_ble_eq_true rfl) ?_
  refine V_al i_X4_init_0 rfl ?_
  refine V_objInit i_X4_init_1 (by decide) (Nat.le_of_ble_eq_true rfl) w_oi1 w_oi2 ?_
  refine V_al i_X4_init_4 rfl ?_
  refine V_il i_X4_init_5 rfl ?_
  refine V_if_le_f i_X4_init_6 hn ?_
  refine V_il i_X4_init_9 rfl ?_
  refine V_goto i_X4_init_10 ?_
  refine N_newJ (N := N) (q := q) i_X4_init_14 (fun g => hn (Int32.le_of_lt g)) hN hb (Nat.le_refl _) (by omega) rfl hq ?_
  refine N_putR i_X4_init_16 s1 rfl (by intro C T N h; cases h; rfl) (fun q => rfl) (fun q => rfl) o1 e ?_
  exact N_ret i_X4_init_19 rfl (Nat.le_refl _) (by omega) rfl

set_option maxRecDepth 100000 in
set_option maxHeartbeats 4000000 in
theorem n_X6_init_0 : CtH 3 m_X6_init [.ref 3] hp_5 4 18 hp_11 := by
  refine CtH_of (by decide) rfl (Nat.le_of_ble_eq_true rfl) ?_
  refine V_al i_X6_init_0 rfl ?_
  refine V_objInit i_X6_init_1 (by decide) (by decide) w_oi1 w_oi2 ?_
  refine V_al i_X6_init_4 rfl ?_
  refine N_new (N := 2) (c := 2) (q := 4) (h' := hp_6) i_X6_init_5 (by intro C T n h; cases h; rfl) (by decide) (by decide) (rq (by decide +kernel)) (by decide +kernel) ?_
  refine V_dup i_X6_init_8 rfl ?_
  refine V_c i_X6_init_9 ?_
  refine V_c i_X6_init_11 ?_
  refine N_call2 (h' := hp_7) i_X6_init_13 mc_X3_init (n_ints (N := 7) (q := 5) (by decide +kernel) (by decide) (by decide) (by decide) (by decide +kernel) (by decide +kernel) (by decide +kernel) (by decide +kernel) (by decide +kernel) (rq (by decide +kernel))) (by decide) (by decide) (by decide) (by decide) (by decide +kernel) ?_
  refine N_putR (h' := hp_8) i_X6_init_16 (by decide +kernel) rfl (by intro C T N h; cases h; rfl) (fun q => rfl) (fun q => rfl) (by decide +kernel) (rq (by decide +kernel)) ?_
  refine V_al i_X6_init_19 rfl ?_
  refine N_new (N := 2) (c := 2) (q := 6) (h' := hp_9) i_X6_init_20 (by intro C T n h; cases h; rfl) (by decide) (by decide) (rq (by decide +kernel)) (by decide +kernel) ?_
  refine V_dup i_X6_init_23 rfl ?_
  refine V_c i_X6_init_24 ?_
  refine V_c i_X6_init_26 ?_
  refine N_call2 (h' := hp_10) i_X6_init_28 mc_X3_init (n_ints (N := 7) (q := 7) (by decide +kernel) (by decide) (by decide) (by decide) (by decide +kernel) (by decide +kernel) (by decide +kernel) (by decide +kernel) (by decide +kernel) (rq (by decide +kernel))) (by decide) (by decide) (by decide) (by decide) (by decide +kernel) ?_
  refine N_putR (h' := hp_11) i_X6_init_31 (by decide +kernel) rfl (by intro C T N h; cases h; rfl) (fun q => rfl) (fun q => rfl) (by decide +kernel) (rq (by decide +kernel)) ?_
  exact N_ret i_X6_init_34 rfl (by decide) (by decide) rfl
set_option maxRecDepth 100000 in
set_option maxHeartbeats 4000000 in
theorem n_X0_init_1 : CtH 3 m_X0_init [.ref 8] hp_13 6 27 hp_22 := by
  refine CtH_of (by decide) rfl (Nat.le_of_ble_eq_true rfl) ?_
  refine V_al i_X0_init_0 rfl ?_
  refine V_objInit i_X0_init_1 (by decide) (by decide) w_oi1 w_oi2 ?_
  refine V_al i_X0_init_4 rfl ?_
  refine N_new (N := 2) (c := 2) (q := 9) (h' := hp_14) i_X0_init_5 (by intro C T n h; cases h; rfl) (by decide) (by decide) (rq (by decide +kernel)) (by decide +kernel) ?_
  refine V_dup i_X0_init_8 rfl ?_
  refine V_c i_X0_init_9 ?_
  refine V_c i_X0_init_11 ?_
  refine N_call2 (h' := hp_15) i_X0_init_13 mc_X3_init (n_ints (N := 7) (q := 10) (by decide +kernel) (by decide) (by decide) (by decide) (by decide +kernel) (by decide +kernel) (by decide +kernel) (by decide +kernel) (by decide +kernel) (rq (by decide +kernel))) (by decide) (by decide) (by decide) (by decide) (by decide +kernel) ?_
  refine N_putR (h' := hp_16) i_X0_init_16 (by decide +kernel) rfl (by intro C T N h; cases h; rfl) (fun q => rfl) (fun q => rfl) (by decide +kernel) (rq (by decide +kernel)) ?_
  refine V_al i_X0_init_19 rfl ?_
  refine N_new (N := 2) (c := 2) (q := 11) (h' := hp_17) i_X0_init_20 (by intro C T n h; cases h; rfl) (by decide) (by decide) (rq (by decide +kernel)) (by decide +kernel) ?_
  refine V_dup i_X0_init_23 rfl ?_
  refine V_c i_X0_init_24 ?_
  refine V_c i_X0_init_26 ?_
  refine N_call2 (h' := hp_18) i_X0_init_28 mc_X3_init (n_ints (N := 7) (q := 12) (by decide +kernel) (by decide) (by decide) (by decide) (by decide +kernel) (by decide +kernel) (by decide +kernel) (by decide +kernel) (by decide +kernel) (rq (by decide +kernel))) (by decide) (by decide) (by decide) (by decide) (by decide +kernel) ?_
  refine N_putR (h' := hp_19) i_X0_init_31 (by decide +kernel) rfl (by intro C T N h; cases h; rfl) (fun q => rfl) (fun q => rfl) (by decide +kernel) (rq (by decide +kernel)) ?_
  refine V_al i_X0_init_34 rfl ?_
  refine N_new (N := 2) (c := 2) (q := 13) (h' := hp_20) i_X0_init_35 (by intro C T n h; cases h; rfl) (by decide) (by decide) (rq (by decide +kernel)) (by decide +kernel) ?_
  refine V_dup i_X0_init_38 rfl ?_
  refine V_c i_X0_init_39 ?_
  refine V_c i_X0_init_41 ?_
  refine N_call2 (h' := hp_21) i_X0_init_43 mc_X3_init (n_ints (N := 7) (q := 14) (by decide +kernel) (by decide) (by decide) (by decide) (by decide +kernel) (by decide +kernel) (by decide +kernel) (by decide +kernel) (by decide +kernel) (rq (by decide +kernel))) (by decide) (by decide) (by decide) (by decide) (by decide +kernel) ?_
  refine N_putR (h' := hp_22) i_X0_init_46 (by decide +kernel) rfl (by intro C T N h; cases h; rfl) (fun q => rfl) (fun q => rfl) (by decide +kernel) (rq (by decide +kernel)) ?_
  exact N_ret i_X0_init_49 rfl (by decide) (by decide) rfl
set_option maxRecDepth 100000 in
set_option maxHeartbeats 4000000 in
theorem n_X2_init_2 : CtH 3 m_X2_init [.ref 15] hp_24 4 17 hp_30 := by
  refine CtH_of (by decide) rfl (Nat.le_of_ble_eq_true rfl) ?_
  refine V_al i_X2_init_0 rfl ?_
  refine V_objInit i_X2_init_1 (by decide) (by decide) w_oi1 w_oi2 ?_
  refine V_al i_X2_init_4 rfl ?_
  refine N_new (N := 2) (c := 2) (q := 16) (h' := hp_25) i_X2_init_5 (by intro C T n h; cases h; rfl) (by decide) (by decide) (rq (by decide +kernel)) (by decide +kernel) ?_
  refine V_dup i_X2_init_8 rfl ?_
  refine V_c i_X2_init_9 ?_
  refine V_c i_X2_init_11 ?_
  refine N_call2 (h' := hp_26) i_X2_init_13 mc_X3_init (n_ints (N := 7) (q := 17) (by decide +kernel) (by decide) (by decide) (by decide) (by decide +kernel) (by decide +kernel) (by decide +kernel) (by decide +kernel) (by decide +kernel) (rq (by decide +kernel))) (by decide) (by decide) (by decide) (by decide) (by decide +kernel) ?_
  refine N_putR (h' := hp_27) i_X2_init_16 (by decide +kernel) rfl (by intro C T N h; cases h; rfl) (fun q => rfl) (fun q => rfl) (by decide +kernel) (rq (by decide +kernel)) ?_
  refine V_al i_X2_init_19 rfl ?_
  refine N_new (N := 1) (c := 1) (q := 18) (h' := hp_28) i_X2_init_20 (by intro C T n h; cases h; rfl) (by decide) (by decide) (rq (by decide +kernel)) (by decide +kernel) ?_
  refine V_dup i_X2_init_23 rfl ?_
  refine V_c i_X2_init_24 ?_
  refine N_call1 (h' := hp_29) i_X2_init_26 mc_X4_init (n_longs (N := 7) (q := 19) (by decide +kernel) (by decide) (by decide) (by decide) (by decide +kernel) (by decide +kernel) (rq (by decide +kernel)) (by decide +kernel)) (by decide) (by decide) (by decide) (by decide) (by decide +kernel) ?_
  refine N_putR (h' := hp_30) i_X2_init_29 (by decide +kernel) rfl (by intro C T N h; cases h; rfl) (fun q => rfl) (fun q => rfl) (by decide +kernel) (rq (by decide +kernel)) ?_
  exact N_ret i_X2_init_32 rfl (by decide) (by decide) rfl
set_option maxRecDepth 100000 in
set_option maxHeartbeats 4000000 in
theorem n_X7_init_3 : CtH 3 m_X7_init [.ref 21] hp_34 12 54 hp_52 := by
  refine CtH_of (by decide) rfl (Nat.le_of_ble_eq_true rfl) ?_
  refine V_al i_X7_init_0 rfl ?_
  refine V_objInit i_X7_init_1 (by decide) (by decide) w_oi1 w_oi2 ?_
  refine V_al i_X7_init_4 rfl ?_
  refine N_new (N := 2) (c := 2) (q := 22) (h' := hp_35) i_X7_init_5 (by intro C T n h; cases h; rfl) (by decide) (by decide) (rq (by decide +kernel)) (by decide +kernel) ?_
  refine V_dup i_X7_init_8 rfl ?_
  refine V_c i_X7_init_9 ?_
  refine V_c i_X7_init_11 ?_
  refine N_call2 (h' := hp_36) i_X7_init_13 mc_X3_init (n_ints (N := 7) (q := 23) (by decide +kernel) (by decide) (by decide) (by decide) (by decide +kernel) (by decide +kernel) (by decide +kernel) (by decide +kernel) (by decide +kernel) (rq (by decide +kernel))) (by decide) (by decide) (by decide) (by decide) (by decide +kernel) ?_
  refine N_putR (h' := hp_37) i_X7_init_16 (by decide +kernel) rfl (by intro C T N h; cases h; rfl) (fun q => rfl) (fun q => rfl) (by decide +kernel) (rq (by decide +kernel)) ?_
  refine V_al i_X7_init_19 rfl ?_
  refine N_new (N := 2) (c := 2) (q := 24) (h' := hp_38) i_X7_init_20 (by intro C T n h; cases h; rfl) (by decide) (by decide) (rq (by decide +kernel)) (by decide +kernel) ?_
  refine V_dup i_X7_init_23 rfl ?_
  refine V_c i_X7_init_24 ?_
  refine V_c i_X7_init_26 ?_
  refine N_call2 (h' := hp_39) i_X7_init_28 mc_X3_init (n_ints (N := 7) (q := 25) (by decide +kernel) (by decide) (by decide) (by decide) (by decide +kernel) (by decide +kernel) (by decide +kernel) (by decide +kernel) (by decide +kernel) (rq (by decide +kernel))) (by decide) (by decide) (by decide) (by decide) (by decide +kernel) ?_
  refine N_putR (h' := hp_40) i_X7_init_31 (by decide +kernel) rfl (by intro C T N h; cases h; rfl) (fun q => rfl) (fun q => rfl) (by decide +kernel) (rq (by decide +kernel)) ?_
  refine V_al i_X7_init_34 rfl ?_
  refine N_new (N := 2) (c := 2) (q := 26) (h' := hp_41) i_X7_init_35 (by intro C T n h; cases h; rfl) (by decide) (by decide) (rq (by decide +kernel)) (by decide +kernel) ?_
  refine V_dup i_X7_init_38 rfl ?_
  refine V_c i_X7_init_39 ?_
  refine V_c i_X7_init_41 ?_
  refine N_call2 (h' := hp_42) i_X7_init_43 mc_X3_init (n_ints (N := 7) (q := 27) (by decide +kernel) (by decide) (by decide) (by decide) (by decide +kernel) (by decide +kernel) (by decide +kernel) (by decide +kernel) (by decide +kernel) (rq (by decide +kernel))) (by decide) (by decide) (by decide) (by decide) (by decide +kernel) ?_
  refine N_putR (h' := hp_43) i_X7_init_46 (by decide +kernel) rfl (by intro C T N h; cases h; rfl) (fun q => rfl) (fun q => rfl) (by decide +kernel) (rq (by decide +kernel)) ?_
  refine V_al i_X7_init_49 rfl ?_
  refine N_new (N := 1) (c := 1) (q := 28) (h' := hp_44) i_X7_init_50 (by intro C T n h; cases h; rfl) (by decide) (by decide) (rq (by decide +kernel)) (by decide +kernel) ?_
  refine V_dup i_X7_init_53 rfl ?_
  refine V_c i_X7_init_54 ?_
  refine N_call1 (h' := hp_45) i_X7_init_56 mc_X4_init (n_longs (N := 7) (q := 29) (by decide +kernel) (by decide) (by decide) (by decide) (by decide +kernel) (by decide +kernel) (rq (by decide +kernel)) (by decide +kernel)) (by decide) (by decide) (by decide) (by decide) (by decide +kernel) ?_
  refine N_putR (h' := hp_46) i_X7_init_59 (by decide +kernel) rfl (by intro C T N h; cases h; rfl) (fun q => rfl) (fun q => rfl) (by decide +kernel) (rq (by decide +kernel)) ?_
  refine V_al i_X7_init_62 rfl ?_
  refine N_new (N := 1) (c := 1) (q := 30) (h' := hp_47) i_X7_init_63 (by intro C T n h; cases h; rfl) (by decide) (by decide) (rq (by decide +kernel)) (by decide +kernel) ?_
  refine V_dup i_X7_init_66 rfl ?_
  refine V_c i_X7_init_67 ?_
  refine N_call1 (h' := hp_48) i_X7_init_69 mc_X4_init (n_longs (N := 8) (q := 31) (by decide +kernel) (by decide) (by decide) (by decide) (by decide +kernel) (by decide +kernel) (rq (by decide +kernel)) (by decide +kernel)) (by decide) (by decide) (by decide) (by decide) (by decide +kernel) ?_
  refine N_putR (h' := hp_49) i_X7_init_72 (by decide +kernel) rfl (by intro C T N h; cases h; rfl) (fun q => rfl) (fun q => rfl) (by decide +kernel) (rq (by decide +kernel)) ?_
  refine V_al i_X7_init_75 rfl ?_
  refine N_new (N := 2) (c := 2) (q := 32) (h' := hp_50) i_X7_init_76 (by intro C T n h; cases h; rfl) (by decide) (by decide) (rq (by decide +kernel)) (by decide +kernel) ?_
  refine V_dup i_X7_init_79 rfl ?_
  refine V_c i_X7_init_80 ?_
  refine V_c i_X7_init_82 ?_
  refine N_call2 (h' := hp_51) i_X7_init_84 mc_X3_init (n_ints (N := 8) (q := 33) (by decide +kernel) (by decide) (by decide) (by decide) (by decide +kernel) (by decide +kernel) (by decide +kernel) (by decide +kernel) (by decide +kernel) (rq (by decide +kernel))) (by decide) (by decide) (by decide) (by decide) (by decide +kernel) ?_
  refine N_putR (h' := hp_52) i_X7_init_87 (by decide +kernel) rfl (by intro C T N h; cases h; rfl) (fun q => rfl) (fun q => rfl) (by decide +kernel) (rq (by decide +kernel)) ?_
  exact N_ret i_X7_init_90 rfl (by decide) (by decide) rfl
set_option maxRecDepth 100000 in
set_option maxHeartbeats 4000000 in
theorem n_X7_init_4 : CtH 3 m_X7_init [.ref 34] hp_54 12 54 hp_72 := by
  refine CtH_of (by decide) rfl (Nat.le_of_ble_eq_true rfl) ?_
  refine V_al i_X7_init_0 rfl ?_
  refine V_objInit i_X7_init_1 (by decide) (by decide) w_oi1 w_oi2 ?_
  refine V_al i_X7_init_4 rfl ?_
  refine N_new (N := 2) (c := 2) (q := 35) (h' := hp_55) i_X7_init_5 (by intro C T n h; cases h; rfl) (by decide) (by decide) (rq (by decide +kernel)) (by decide +kernel) ?_
  refine V_dup i_X7_init_8 rfl ?_
  refine V_c i_X7_init_9 ?_
  refine V_c i_X7_init_11 ?_
  refine N_call2 (h' := hp_56) i_X7_init_13 mc_X3_init (n_ints (N := 7) (q := 36) (by decide +kernel) (by decide) (by decide) (by decide) (by decide +kernel) (by decide +kernel) (by decide +kernel) (by decide +kernel) (by decide +kernel) (rq (by decide +kernel))) (by decide) (by decide) (by decide) (by decide) (by decide +kernel) ?_
  refine N_putR (h' := hp_57) i_X7_init_16 (by decide +kernel) rfl (by intro C T N h; cases h; rfl) (fun q => rfl) (fun q => rfl) (by decide +kernel) (rq (by decide +kernel)) ?_
  refine V_al i_X7_init_19 rfl ?_
  refine N_new (N := 2) (c := 2) (q := 37) (h' := hp_58) i_X7_init_20 (by intro C T n h; cases h; rfl) (by decide) (by decide) (rq (by decide +kernel)) (by decide +kernel) ?_
  refine V_dup i_X7_init_23 rfl ?_
  refine V_c i_X7_init_24 ?_
  refine V_c i_X7_init_26 ?_
  refine N_call2 (h' := hp_59) i_X7_init_28 mc_X3_init (n_ints (N := 7) (q := 38) (by decide +kernel) (by decide) (by decide) (by decide) (by decide +kernel) (by decide +kernel) (by decide +kernel) (by decide +kernel) (by decide +kernel) (rq (by decide +kernel))) (by decide) (by decide) (by decide) (by decide) (by decide +kernel) ?_
  refine N_putR (h' := hp_60) i_X7_init_31 (by decide +kernel) rfl (by intro C T N h; cases h; rfl) (fun q => rfl) (fun q => rfl) (by decide +kernel) (rq (by decide +kernel)) ?_
  refine V_al i_X7_init_34 rfl ?_
  refine N_new (N := 2) (c := 2) (q := 39) (h' := hp_61) i_X7_init_35 (by intro C T n h; cases h; rfl) (by decide) (by decide) (rq (by decide +kernel)) (by decide +kernel) ?_
  refine V_dup i_X7_init_38 rfl ?_
  refine V_c i_X7_init_39 ?_
  refine V_c i_X7_init_41 ?_
  refine N_call2 (h' := hp_62) i_X7_init_43 mc_X3_init (n_ints (N := 7) (q := 40) (by decide +kernel) (by decide) (by decide) (by decide) (by decide +kernel) (by decide +kernel) (by decide +kernel) (by decide +kernel) (by decide +kernel) (rq (by decide +kernel))) (by decide) (by decide) (by decide) (by decide) (by decide +kernel) ?_
  refine N_putR (h' := hp_63) i_X7_init_46 (by decide +kernel) rfl (by intro C T N h; cases h; rfl) (fun q => rfl) (fun q => rfl) (by decide +kernel) (rq (by decide +kernel)) ?_
  refine V_al i_X7_init_49 rfl ?_
  refine N_new (N := 1) (c := 1) (q := 41) (h' := hp_64) i_X7_init_50 (by intro C T n h; cases h; rfl) (by decide) (by decide) (rq (by decide +kernel)) (by decide +kernel) ?_
  refine V_dup i_X7_init_53 rfl ?_
  refine V_c i_X7_init_54 ?_
  refine N_call1 (h' := hp_65) i_X7_init_56 mc_X4_init (n_longs (N := 7) (q := 42) (by decide +kernel) (by decide) (by decide) (by decide) (by decide +kernel) (by decide +kernel) (rq (by decide +kernel)) (by decide +kernel)) (by decide) (by decide) (by decide) (by decide) (by decide +kernel) ?_
  refine N_putR (h' := hp_66) i_X7_init_59 (by decide +kernel) rfl (by intro C T N h; cases h; rfl) (fun q => rfl) (fun q => rfl) (by decide +kernel) (rq (by decide +kernel)) ?_
  refine V_al i_X7_init_62 rfl ?_
  refine N_new (N := 1) (c := 1) (q := 43) (h' := hp_67) i_X7_init_63 (by intro C T n h; cases h; rfl) (by decide) (by decide) (rq (by decide +kernel)) (by decide +kernel) ?_
  refine V_dup i_X7_init_66 rfl ?_
  refine V_c i_X7_init_67 ?_
  refine N_call1 (h' := hp_68) i_X7_init_69 mc_X4_init (n_longs (N := 8) (q := 44) (by decide +kernel) (by decide) (by decide) (by decide) (by decide +kernel) (by decide +kernel) (rq (by decide +kernel)) (by decide +kernel)) (by decide) (by decide) (by decide) (by decide) (by decide +kernel) ?_
  refine N_putR (h' := hp_69) i_X7_init_72 (by decide +kernel) rfl (by intro C T N h; cases h; rfl) (fun q => rfl) (fun q => rfl) (by decide +kernel) (rq (by decide +kernel)) ?_
  refine V_al i_X7_init_75 rfl ?_
  refine N_new (N := 2) (c := 2) (q := 45) (h' := hp_70) i_X7_init_76 (by intro C T n h; cases h; rfl) (by decide) (by decide) (rq (by decide +kernel)) (by decide +kernel) ?_
  refine V_dup i_X7_init_79 rfl ?_
  refine V_c i_X7_init_80 ?_
  refine V_c i_X7_init_82 ?_
  refine N_call2 (h' := hp_71) i_X7_init_84 mc_X3_init (n_ints (N := 8) (q := 46) (by decide +kernel) (by decide) (by decide) (by decide) (by decide +kernel) (by decide +kernel) (by decide +kernel) (by decide +kernel) (by decide +kernel) (rq (by decide +kernel))) (by decide) (by decide) (by decide) (by decide) (by decide +kernel) ?_
  refine N_putR (h' := hp_72) i_X7_init_87 (by decide +kernel) rfl (by intro C T N h; cases h; rfl) (fun q => rfl) (fun q => rfl) (by decide +kernel) (rq (by decide +kernel)) ?_
  exact N_ret i_X7_init_90 rfl (by decide) (by decide) rfl
set_option maxRecDepth 100000 in
set_option maxHeartbeats 4000000 in
theorem n_X7_init_5 : CtH 3 m_X7_init [.ref 48] hp_75 12 54 hp_93 := by
  refine CtH_of (by decide) rfl (Nat.le_of_ble_eq_true rfl) ?_
  refine V_al i_X7_init_0 rfl ?_
  refine V_objInit i_X7_init_1 (by decide) (by decide) w_oi1 w_oi2 ?_
  refine V_al i_X7_init_4 rfl ?_
  refine N_new (N := 2) (c := 2) (q := 49) (h' := hp_76) i_X7_init_5 (by intro C T n h; cases h; rfl) (by decide) (by decide) (rq (by decide +kernel)) (by decide +kernel) ?_
  refine V_dup i_X7_init_8 rfl ?_
  refine V_c i_X7_init_9 ?_
  refine V_c i_X7_init_11 ?_
  refine N_call2 (h' := hp_77) i_X7_init_13 mc_X3_init (n_ints (N := 7) (q := 50) (by decide +kernel) (by decide) (by decide) (by decide) (by decide +kernel) (by decide +kernel) (by decide +kernel) (by decide +kernel) (by decide +kernel) (rq (by decide +kernel))) (by decide) (by decide) (by decide) (by decide) (by decide +kernel) ?_
  refine N_putR (h' := hp_78) i_X7_init_16 (by decide +kernel) rfl (by intro C T N h; cases h; rfl) (fun q => rfl) (fun q => rfl) (by decide +kernel) (rq (by decide +kernel)) ?_
  refine V_al i_X7_init_19 rfl ?_
  refine N_new (N := 2) (c := 2) (q := 51) (h' := hp_79) i_X7_init_20 (by intro C T n h; cases h; rfl) (by decide) (by decide) (rq (by decide +kernel)) (by decide +kernel) ?_
  refine V_dup i_X7_init_23 rfl ?_
  refine V_c i_X7_init_24 ?_
  refine V_c i_X7_init_26 ?_
  refine N_call2 (h' := hp_80) i_X7_init_28 mc_X3_init (n_ints (N := 7) (q := 52) (by decide +kernel) (by decide) (by decide) (by decide) (by decide +kernel) (by decide +kernel) (by decide +kernel) (by decide +kernel) (by decide +kernel) (rq (by decide +kernel))) (by decide) (by decide) (by decide) (by decide) (by decide +kernel) ?_
  refine N_putR (h' := hp_81) i_X7_init_31 (by decide +kernel) rfl (by intro C T N h; cases h; rfl) (fun q => rfl) (fun q => rfl) (by decide +kernel) (rq (by decide +kernel)) ?_
  refine V_al i_X7_init_34 rfl ?_
  refine N_new (N := 2) (c := 2) (q := 53) (h' := hp_82) i_X7_init_35 (by intro C T n h; cases h; rfl) (by decide) (by decide) (rq (by decide +kernel)) (by decide +kernel) ?_
  refine V_dup i_X7_init_38 rfl ?_
  refine V_c i_X7_init_39 ?_
  refine V_c i_X7_init_41 ?_
  refine N_call2 (h' := hp_83) i_X7_init_43 mc_X3_init (n_ints (N := 7) (q := 54) (by decide +kernel) (by decide) (by decide) (by decide) (by decide +kernel) (by decide +kernel) (by decide +kernel) (by decide +kernel) (by decide +kernel) (rq (by decide +kernel))) (by decide) (by decide) (by decide) (by decide) (by decide +kernel) ?_
  refine N_putR (h' := hp_84) i_X7_init_46 (by decide +kernel) rfl (by intro C T N h; cases h; rfl) (fun q => rfl) (fun q => rfl) (by decide +kernel) (rq (by decide +kernel)) ?_
  refine V_al i_X7_init_49 rfl ?_
  refine N_new (N := 1) (c := 1) (q := 55) (h' := hp_85) i_X7_init_50 (by intro C T n h; cases h; rfl) (by decide) (by decide) (rq (by decide +kernel)) (by decide +kernel) ?_
  refine V_dup i_X7_init_53 rfl ?_
  refine V_c i_X7_init_54 ?_
  refine N_call1 (h' := hp_86) i_X7_init_56 mc_X4_init (n_longs (N := 7) (q := 56) (by decide +kernel) (by decide) (by decide) (by decide) (by decide +kernel) (by decide +kernel) (rq (by decide +kernel)) (by decide +kernel)) (by decide) (by decide) (by decide) (by decide) (by decide +kernel) ?_
  refine N_putR (h' := hp_87) i_X7_init_59 (by decide +kernel) rfl (by intro C T N h; cases h; rfl) (fun q => rfl) (fun q => rfl) (by decide +kernel) (rq (by decide +kernel)) ?_
  refine V_al i_X7_init_62 rfl ?_
  refine N_new (N := 1) (c := 1) (q := 57) (h' := hp_88) i_X7_init_63 (by intro C T n h; cases h; rfl) (by decide) (by decide) (rq (by decide +kernel)) (by decide +kernel) ?_
  refine V_dup i_X7_init_66 rfl ?_
  refine V_c i_X7_init_67 ?_
  refine N_call1 (h' := hp_89) i_X7_init_69 mc_X4_init (n_longs (N := 8) (q := 58) (by decide +kernel) (by decide) (by decide) (by decide) (by decide +kernel) (by decide +kernel) (rq (by decide +kernel)) (by decide +kernel)) (by decide) (by decide) (by decide) (by decide) (by decide +kernel) ?_
  refine N_putR (h' := hp_90) i_X7_init_72 (by decide +kernel) rfl (by intro C T N h; cases h; rfl) (fun q => rfl) (fun q => rfl) (by decide +kernel) (rq (by decide +kernel)) ?_
  refine V_al i_X7_init_75 rfl ?_
  refine N_new (N := 2) (c := 2) (q := 59) (h' := hp_91) i_X7_init_76 (by intro C T n h; cases h; rfl) (by decide) (by decide) (rq (by decide +kernel)) (by decide +kernel) ?_
  refine V_dup i_X7_init_79 rfl ?_
  refine V_c i_X7_init_80 ?_
  refine V_c i_X7_init_82 ?_
  refine N_call2 (h' := hp_92) i_X7_init_84 mc_X3_init (n_ints (N := 8) (q := 60) (by decide +kernel) (by decide) (by decide) (by decide) (by decide +kernel) (by decide +kernel) (by decide +kernel) (by decide +kernel) (by decide +kernel) (rq (by decide +kernel))) (by decide) (by decide) (by decide) (by decide) (by decide +kernel) ?_
  refine N_putR (h' := hp_93) i_X7_init_87 (by decide +kernel) rfl (by intro C T N h; cases h; rfl) (fun q => rfl) (fun q => rfl) (by decide +kernel) (rq (by decide +kernel)) ?_
  exact N_ret i_X7_init_90 rfl (by decide) (by decide) rfl
set_option maxRecDepth 100000 in
set_option maxHeartbeats 4000000 in
theorem n_X7_init_6 : CtH 3 m_X7_init [.ref 61] hp_95 12 54 hp_113 := by
  refine CtH_of (by decide) rfl (Nat.le_of_ble_eq_true rfl) ?_
  refine V_al i_X7_init_0 rfl ?_
  refine V_objInit i_X7_init_1 (by decide) (by decide) w_oi1 w_oi2 ?_
  refine V_al i_X7_init_4 rfl ?_
  refine N_new (N := 2) (c := 2) (q := 62) (h' := hp_96) i_X7_init_5 (by intro C T n h; cases h; rfl) (by decide) (by decide) (rq (by decide +kernel)) (by decide +kernel) ?_
  refine V_dup i_X7_init_8 rfl ?_
  refine V_c i_X7_init_9 ?_
  refine V_c i_X7_init_11 ?_
  refine N_call2 (h' := hp_97) i_X7_init_13 mc_X3_init (n_ints (N := 7) (q := 63) (by decide +kernel) (by decide) (by decide) (by decide) (by decide +kernel) (by decide +kernel) (by decide +kernel) (by decide +kernel) (by decide +kernel) (rq (by decide +kernel))) (by decide) (by decide) (by decide) (by decide) (by decide +kernel) ?_
  refine N_putR (h' := hp_98) i_X7_init_16 (by decide +kernel) rfl (by intro C T N h; cases h; rfl) (fun q => rfl) (fun q => rfl) (by decide +kernel) (rq (by decide +kernel)) ?_
  refine V_al i_X7_init_19 rfl ?_
  refine N_new (N := 2) (c := 2) (q := 64) (h' := hp_99) i_X7_init_20 (by intro C T n h; cases h; rfl) (by decide) (by decide) (rq (by decide +kernel)) (by decide +kernel) ?_
  refine V_dup i_X7_init_23 rfl ?_
  refine V_c i_X7_init_24 ?_
  refine V_c i_X7_init_26 ?_
  refine N_call2 (h' := hp_100) i_X7_init_28 mc_X3_init (n_ints (N := 7) (q := 65) (by decide +kernel) (by decide) (by decide) (by decide) (by decide +kernel) (by decide +kernel) (by decide +kernel) (by decide +kernel) (by decide +kernel) (rq (by decide +kernel))) (by decide) (by decide) (by decide) (by decide) (by decide +kernel) ?_
  refine N_putR (h' := hp_101) i_X7_init_31 (by decide +kernel) rfl (by intro C T N h; cases h; rfl) (fun q => rfl) (fun q => rfl) (by decide +kernel) (rq (by decide +kernel)) ?_
  refine V_al i_X7_init_34 rfl ?_
  refine N_new (N := 2) (c := 2) (q := 66) (h' := hp_102) i_X7_init_35 (by intro C T n h; cases h; rfl) (by decide) (by decide) (rq (by decide +kernel)) (by decide +kernel) ?_
  refine V_dup i_X7_init_38 rfl ?_
  refine V_c i_X7_init_39 ?_
  refine V_c i_X7_init_41 ?_
  refine N_call2 (h' := hp_103) i_X7_init_43 mc_X3_init (n_ints (N := 7) (q := 67) (by decide +kernel) (by decide) (by decide) (by decide) (by decide +kernel) (by decide +kernel) (by decide +kernel) (by decide +kernel) (by decide +kernel) (rq (by decide +kernel))) (by decide) (by decide) (by decide) (by decide) (by decide +kernel) ?_
  refine N_putR (h' := hp_104) i_X7_init_46 (by decide +kernel) rfl (by intro C T N h; cases h; rfl) (fun q => rfl) (fun q => rfl) (by decide +kernel) (rq (by decide +kernel)) ?_
  refine V_al i_X7_init_49 rfl ?_
  refine N_new (N := 1) (c := 1) (q := 68) (h' := hp_105) i_X7_init_50 (by intro C T n h; cases h; rfl) (by decide) (by decide) (rq (by decide +kernel)) (by decide +kernel) ?_
  refine V_dup i_X7_init_53 rfl ?_
  refine V_c i_X7_init_54 ?_
  refine N_call1 (h' := hp_106) i_X7_init_56 mc_X4_init (n_longs (N := 7) (q := 69) (by decide +kernel) (by decide) (by decide) (by decide) (by decide +kernel) (by decide +kernel) (rq (by decide +kernel)) (by decide +kernel)) (by decide) (by decide) (by decide) (by decide) (by decide +kernel) ?_
  refine N_putR (h' := hp_107) i_X7_init_59 (by decide +kernel) rfl (by intro C T N h; cases h; rfl) (fun q => rfl) (fun q => rfl) (by decide +kernel) (rq (by decide +kernel)) ?_
  refine V_al i_X7_init_62 rfl ?_
  refine N_new (N := 1) (c := 1) (q := 70) (h' := hp_108) i_X7_init_63 (by intro C T n h; cases h; rfl) (by decide) (by decide) (rq (by decide +kernel)) (by decide +kernel) ?_
  refine V_dup i_X7_init_66 rfl ?_
  refine V_c i_X7_init_67 ?_
  refine N_call1 (h' := hp_109) i_X7_init_69 mc_X4_init (n_longs (N := 8) (q := 71) (by decide +kernel) (by decide) (by decide) (by decide) (by decide +kernel) (by decide +kernel) (rq (by decide +kernel)) (by decide +kernel)) (by decide) (by decide) (by decide) (by decide) (by decide +kernel) ?_
  refine N_putR (h' := hp_110) i_X7_init_72 (by decide +kernel) rfl (by intro C T N h; cases h; rfl) (fun q => rfl) (fun q => rfl) (by decide +kernel) (rq (by decide +kernel)) ?_
  refine V_al i_X7_init_75 rfl ?_
  refine N_new (N := 2) (c := 2) (q := 72) (h' := hp_111) i_X7_init_76 (by intro C T n h; cases h; rfl) (by decide) (by decide) (rq (by decide +kernel)) (by decide +kernel) ?_
  refine V_dup i_X7_init_79 rfl ?_
  refine V_c i_X7_init_80 ?_
  refine V_c i_X7_init_82 ?_
  refine N_call2 (h' := hp_112) i_X7_init_84 mc_X3_init (n_ints (N := 8) (q := 73) (by decide +kernel) (by decide) (by decide) (by decide) (by decide +kernel) (by decide +kernel) (by decide +kernel) (by decide +kernel) (by decide +kernel) (rq (by decide +kernel))) (by decide) (by decide) (by decide) (by decide) (by decide +kernel) ?_
  refine N_putR (h' := hp_113) i_X7_init_87 (by decide +kernel) rfl (by intro C T N h; cases h; rfl) (fun q => rfl) (fun q => rfl) (by decide +kernel) (rq (by decide +kernel)) ?_
  exact N_ret i_X7_init_90 rfl (by decide) (by decide) rfl
set_option maxRecDepth 100000 in
set_option maxHeartbeats 4000000 in
theorem n_X5_init_7 : CtH 4 m_X5_init [.ref 47] hp_74 28 135 hp_117 := by
  refine CtH_of (by decide) rfl (Nat.le_of_ble_eq_true rfl) ?_
  refine V_al i_X5_init_0 rfl ?_
  refine V_objInit i_X5_init_1 (by decide) (by decide) w_oi1 w_oi2 ?_
  refine V_al i_X5_init_4 rfl ?_
  refine N_new (N := 9) (c := 9) (q := 48) (h' := hp_75) i_X5_init_5 (by intro C T n h; cases h; rfl) (by decide) (by decide) (rq (by decide +kernel)) (by decide +kernel) ?_
  refine V_dup i_X5_init_8 rfl ?_
  refine N_call0 (h' := hp_93) i_X5_init_9 mc_X7_init n_X7_init_5 (by decide) (by decide) (by decide) (by decide) (by decide +kernel) ?_
  refine N_putR (h' := hp_94) i_X5_init_12 (by decide +kernel) rfl (by intro C T N h; cases h; rfl) (fun q => rfl) (fun q => rfl) (by decide +kernel) (rq (by decide +kernel)) ?_
  refine V_al i_X5_init_15 rfl ?_
  refine N_new (N := 9) (c := 9) (q := 61) (h' := hp_95) i_X5_init_16 (by intro C T n h; cases h; rfl) (by decide) (by decide) (rq (by decide +kernel)) (by decide +kernel) ?_
  refine V_dup i_X5_init_19 rfl ?_
  refine N_call0 (h' := hp_113) i_X5_init_20 mc_X7_init n_X7_init_6 (by decide) (by decide) (by decide) (by decide) (by decide +kernel) ?_
  refine N_putR (h' := hp_114) i_X5_init_23 (by decide +kernel) rfl (by intro C T N h; cases h; rfl) (fun q => rfl) (fun q => rfl) (by decide +kernel) (rq (by decide +kernel)) ?_
  refine V_al i_X5_init_26 rfl ?_
  refine N_new (N := 2) (c := 2) (q := 74) (h' := hp_115) i_X5_init_27 (by intro C T n h; cases h; rfl) (by decide) (by decide) (rq (by decide +kernel)) (by decide +kernel) ?_
  refine V_dup i_X5_init_30 rfl ?_
  refine V_c i_X5_init_31 ?_
  refine V_c i_X5_init_33 ?_
  refine N_call2 (h' := hp_116) i_X5_init_35 mc_X3_init (n_ints (N := 7) (q := 75) (by decide +kernel) (by decide) (by decide) (by decide) (by decide +kernel) (by decide +kernel) (by decide +kernel) (by decide +kernel) (by decide +kernel) (rq (by decide +kernel))) (by decide) (by decide) (by decide) (by decide) (by decide +kernel) ?_
  refine N_putR (h' := hp_117) i_X5_init_38 (by decide +kernel) rfl (by intro C T N h; cases h; rfl) (fun q => rfl) (fun q => rfl) (by decide +kernel) (rq (by decide +kernel)) ?_
  exact N_ret i_X5_init_41 rfl (by decide) (by decide) rfl
set_option maxRecDepth 100000 in
set_option maxHeartbeats 4000000 in
theorem n_X7_init_8 : CtH 3 m_X7_init [.ref 77] hp_120 12 54 hp_138 := by
  refine CtH_of (by decide) rfl (Nat.le_of_ble_eq_true rfl) ?_
  refine V_al i_X7_init_0 rfl ?_
  refine V_objInit i_X7_init_1 (by decide) (by decide) w_oi1 w_oi2 ?_
  refine V_al i_X7_init_4 rfl ?_
  refine N_new (N := 2) (c := 2) (q := 78) (h' := hp_121) i_X7_init_5 (by intro C T n h; cases h; rfl) (by decide) (by decide) (rq (by decide +kernel)) (by decide +kernel) ?_
  refine V_dup i_X7_init_8 rfl ?_
  refine V_c i_X7_init_9 ?_
  refine V_c i_X7_init_11 ?_
  refine N_call2 (h' := hp_122) i_X7_init_13 mc_X3_init (n_ints (N := 7) (q := 79) (by decide +kernel) (by decide) (by decide) (by decide) (by decide +kernel) (by decide +kernel) (by decide +kernel) (by decide +kernel) (by decide +kernel) (rq (by decide +kernel))) (by decide) (by decide) (by decide) (by decide) (by decide +kernel) ?_
  refine N_putR (h' := hp_123) i_X7_init_16 (by decide +kernel) rfl (by intro C T N h; cases h; rfl) (fun q => rfl) (fun q => rfl) (by decide +kernel) (rq (by decide +kernel)) ?_
  refine V_al i_X7_init_19 rfl ?_
  refine N_new (N := 2) (c := 2) (q := 80) (h' := hp_124) i_X7_init_20 (by intro C T n h; cases h; rfl) (by decide) (by decide) (rq (by decide +kernel)) (by decide +kernel) ?_
  refine V_dup i_X7_init_23 rfl ?_
  refine V_c i_X7_init_24 ?_
  refine V_c i_X7_init_26 ?_
  refine N_call2 (h' := hp_125) i_X7_init_28 mc_X3_init (n_ints (N := 7) (q := 81) (by decide +kernel) (by decide) (by decide) (by decide) (by decide +kernel) (by decide +kernel) (by decide +kernel) (by decide +kernel) (by decide +kernel) (rq (by decide +kernel))) (by decide) (by decide) (by decide) (by decide) (by decide +kernel) ?_
  refine N_putR (h' := hp_126) i_X7_init_31 (by decide +kernel) rfl (by intro C T N h; cases h; rfl) (fun q => rfl) (fun q => rfl) (by decide +kernel) (rq (by decide +kernel)) ?_
  refine V_al i_X7_init_34 rfl ?_
  refine N_new (N := 2) (c := 2) (q := 82) (h' := hp_127) i_X7_init_35 (by intro C T n h; cases h; rfl) (by decide) (by decide) (rq (by decide +kernel)) (by decide +kernel) ?_
  refine V_dup i_X7_init_38 rfl ?_
  refine V_c i_X7_init_39 ?_
  refine V_c i_X7_init_41 ?_
  refine N_call2 (h' := hp_128) i_X7_init_43 mc_X3_init (n_ints (N := 7) (q := 83) (by decide +kernel) (by decide) (by decide) (by decide) (by decide +kernel) (by decide +kernel) (by decide +kernel) (by decide +kernel) (by decide +kernel) (rq (by decide +kernel))) (by decide) (by decide) (by decide) (by decide) (by decide +kernel) ?_
  refine N_putR (h' := hp_129) i_X7_init_46 (by decide +kernel) rfl (by intro C T N h; cases h; rfl) (fun q => rfl) (fun q => rfl) (by decide +kernel) (rq (by decide +kernel)) ?_
  refine V_al i_X7_init_49 rfl ?_
  refine N_new (N := 1) (c := 1) (q := 84) (h' := hp_130) i_X7_init_50 (by intro C T n h; cases h; rfl) (by decide) (by decide) (rq (by decide +kernel)) (by decide +kernel) ?_
  refine V_dup i_X7_init_53 rfl ?_
  refine V_c i_X7_init_54 ?_
  refine N_call1 (h' := hp_131) i_X7_init_56 mc_X4_init (n_longs (N := 7) (q := 85) (by decide +kernel) (by decide) (by decide) (by decide) (by decide +kernel) (by decide +kernel) (rq (by decide +kernel)) (by decide +kernel)) (by decide) (by decide) (by decide) (by decide) (by decide +kernel) ?_
  refine N_putR (h' := hp_132) i_X7_init_59 (by decide +kernel) rfl (by intro C T N h; cases h; rfl) (fun q => rfl) (fun q => rfl) (by decide +kernel) (rq (by decide +kernel)) ?_
  refine V_al i_X7_init_62 rfl ?_
  refine N_new (N := 1) (c := 1) (q := 86) (h' := hp_133) i_X7_init_63 (by intro C T n h; cases h; rfl) (by decide) (by decide) (rq (by decide +kernel)) (by decide +kernel) ?_
  refine V_dup i_X7_init_66 rfl ?_
  refine V_c i_X7_init_67 ?_
  refine N_call1 (h' := hp_134) i_X7_init_69 mc_X4_init (n_longs (N := 8) (q := 87) (by decide +kernel) (by decide) (by decide) (by decide) (by decide +kernel) (by decide +kernel) (rq (by decide +kernel)) (by decide +kernel)) (by decide) (by decide) (by decide) (by decide) (by decide +kernel) ?_
  refine N_putR (h' := hp_135) i_X7_init_72 (by decide +kernel) rfl (by intro C T N h; cases h; rfl) (fun q => rfl) (fun q => rfl) (by decide +kernel) (rq (by decide +kernel)) ?_
  refine V_al i_X7_init_75 rfl ?_
  refine N_new (N := 2) (c := 2) (q := 88) (h' := hp_136) i_X7_init_76 (by intro C T n h; cases h; rfl) (by decide) (by decide) (rq (by decide +kernel)) (by decide +kernel) ?_
  refine V_dup i_X7_init_79 rfl ?_
  refine V_c i_X7_init_80 ?_
  refine V_c i_X7_init_82 ?_
  refine N_call2 (h' := hp_137) i_X7_init_84 mc_X3_init (n_ints (N := 8) (q := 89) (by decide +kernel) (by decide) (by decide) (by decide) (by decide +kernel) (by decide +kernel) (by decide +kernel) (by decide +kernel) (by decide +kernel) (rq (by decide +kernel))) (by decide) (by decide) (by decide) (by decide) (by decide +kernel) ?_
  refine N_putR (h' := hp_138) i_X7_init_87 (by decide +kernel) rfl (by intro C T N h; cases h; rfl) (fun q => rfl) (fun q => rfl) (by decide +kernel) (rq (by decide +kernel)) ?_
  exact N_ret i_X7_init_90 rfl (by decide) (by decide) rfl
set_option maxRecDepth 100000 in
set_option maxHeartbeats 4000000 in
theorem n_X9_init_9 : CtH 4 m_X9_init [.ref 76] hp_119 13 63 hp_139 := by
  refine CtH_of (by decide) rfl (Nat.le_of_ble_eq_true rfl) ?_
  refine V_al i_X9_init_0 rfl ?_
  refine V_objInit i_X9_init_1 (by decide) (by decide) w_oi1 w_oi2 ?_
  refine V_al i_X9_init_4 rfl ?_
  refine N_new (N := 9) (c := 9) (q := 77) (h' := hp_120) i_X9_init_5 (by intro C T n h; cases h; rfl) (by decide) (by decide) (rq (by decide +kernel)) (by decide +kernel) ?_
  refine V_dup i_X9_init_8 rfl ?_
  refine N_call0 (h' := hp_138) i_X9_init_9 mc_X7_init n_X7_init_8 (by decide) (by decide) (by decide) (by decide) (by decide +kernel) ?_
  refine N_putR (h' := hp_139) i_X9_init_12 (by decide +kernel) rfl (by intro C T N h; cases h; rfl) (fun q => rfl) (fun q => rfl) (by decide +kernel) (rq (by decide +kernel)) ?_
  exact N_ret i_X9_init_15 rfl (by decide) (by decide) rfl
set_option maxRecDepth 100000 in
set_option maxHeartbeats 4000000 in
theorem n_X7_init_10 : CtH 3 m_X7_init [.ref 91] hp_142 12 54 hp_160 := by
  refine CtH_of (by decide) rfl (Nat.le_of_ble_eq_true rfl) ?_
  refine V_al i_X7_init_0 rfl ?_
  refine V_objInit i_X7_init_1 (by decide) (by decide) w_oi1 w_oi2 ?_
  refine V_al i_X7_init_4 rfl ?_
  refine N_new (N := 2) (c := 2) (q := 92) (h' := hp_143) i_X7_init_5 (by intro C T n h; cases h; rfl) (by decide) (by decide) (rq (by decide +kernel)) (by decide +kernel) ?_
  refine V_dup i_X7_init_8 rfl ?_
  refine V_c i_X7_init_9 ?_
  refine V_c i_X7_init_11 ?_
  refine N_call2 (h' := hp_144) i_X7_init_13 mc_X3_init (n_ints (N := 7) (q := 93) (by decide +kernel) (by decide) (by decide) (by decide) (by decide +kernel) (by decide +kernel) (by decide +kernel) (by decide +kernel) (by decide +kernel) (rq (by decide +kernel))) (by decide) (by decide) (by decide) (by decide) (by decide +kernel) ?_
  refine N_putR (h' := hp_145) i_X7_init_16 (by decide +kernel) rfl (by intro C T N h; cases h; rfl) (fun q => rfl) (fun q => rfl) (by decide +kernel) (rq (by decide +kernel)) ?_
  refine V_al i_X7_init_19 rfl ?_
  refine N_new (N := 2) (c := 2) (q := 94) (h' := hp_146) i_X7_init_20 (by intro C T n h; cases h; rfl) (by decide) (by decide) (rq (by decide +kernel)) (by decide +kernel) ?_
  refine V_dup i_X7_init_23 rfl ?_
  refine V_c i_X7_init_24 ?_
  refine V_c i_X7_init_26 ?_
  refine N_call2 (h' := hp_147) i_X7_init_28 mc_X3_init (n_ints (N := 7) (q := 95) (by decide +kernel) (by decide) (by decide) (by decide) (by decide +kernel) (by decide +kernel) (by decide +kernel) (by decide +kernel) (by decide +kernel) (rq (by decide +kernel))) (by decide) (by decide) (by decide) (by decide) (by decide +kernel) ?_
  refine N_putR (h' := hp_148) i_X7_init_31 (by decide +kernel) rfl (by intro C T N h; cases h; rfl) (fun q => rfl) (fun q => rfl) (by decide +kernel) (rq (by decide +kernel)) ?_
  refine V_al i_X7_init_34 rfl ?_
  refine N_new (N := 2) (c := 2) (q := 96) (h' := hp_149) i_X7_init_35 (by intro C T n h; cases h; rfl) (by decide) (by decide) (rq (by decide +kernel)) (by decide +kernel) ?_
  refine V_dup i_X7_init_38 rfl ?_
  refine V_c i_X7_init_39 ?_
  refine V_c i_X7_init_41 ?_
  refine N_call2 (h' := hp_150) i_X7_init_43 mc_X3_init (n_ints (N := 7) (q := 97) (by decide +kernel) (by decide) (by decide) (by decide) (by decide +kernel) (by decide +kernel) (by decide +kernel) (by decide +kernel) (by decide +kernel) (rq (by decide +kernel))) (by decide) (by decide) (by decide) (by decide) (by decide +kernel) ?_
  refine N_putR (h' := hp_151) i_X7_init_46 (by decide +kernel) rfl (by intro C T N h; cases h; rfl) (fun q => rfl) (fun q => rfl) (by decide +kernel) (rq (by decide +kernel)) ?_
  refine V_al i_X7_init_49 rfl ?_
  refine N_new (N := 1) (c := 1) (q := 98) (h' := hp_152) i_X7_init_50 (by intro C T n h; cases h; rfl) (by decide) (by decide) (rq (by decide +kernel)) (by decide +kernel) ?_
  refine V_dup i_X7_init_53 rfl ?_
  refine V_c i_X7_init_54 ?_
  refine N_call1 (h' := hp_153) i_X7_init_56 mc_X4_init (n_longs (N := 7) (q := 99) (by decide +kernel) (by decide) (by decide) (by decide) (by decide +kernel) (by decide +kernel) (rq (by decide +kernel)) (by decide +kernel)) (by decide) (by decide) (by decide) (by decide) (by decide +kernel) ?_
  refine N_putR (h' := hp_154) i_X7_init_59 (by decide +kernel) rfl (by intro C T N h; cases h; rfl) (fun q => rfl) (fun q => rfl) (by decide +kernel) (rq (by decide +kernel)) ?_
  refine V_al i_X7_init_62 rfl ?_
  refine N_new (N := 1) (c := 1) (q := 100) (h' := hp_155) i_X7_init_63 (by intro C T n h; cases h; rfl) (by decide) (by decide) (rq (by decide +kernel)) (by decide +kernel) ?_
  refine V_dup i_X7_init_66 rfl ?_
  refine V_c i_X7_init_67 ?_
  refine N_call1 (h' := hp_156) i_X7_init_69 mc_X4_init (n_longs (N := 8) (q := 101) (by decide +kernel) (by decide) (by decide) (by decide) (by decide +kernel) (by decide +kernel) (rq (by decide +kernel)) (by decide +kernel)) (by decide) (by decide) (by decide) (by decide) (by decide +kernel) ?_
  refine N_putR (h' := hp_157) i_X7_init_72 (by decide +kernel) rfl (by intro C T N h; cases h; rfl) (fun q => rfl) (fun q => rfl) (by decide +kernel) (rq (by decide +kernel)) ?_
  refine V_al i_X7_init_75 rfl ?_
  refine N_new (N := 2) (c := 2) (q := 102) (h' := hp_158) i_X7_init_76 (by intro C T n h; cases h; rfl) (by decide) (by decide) (rq (by decide +kernel)) (by decide +kernel) ?_
  refine V_dup i_X7_init_79 rfl ?_
  refine V_c i_X7_init_80 ?_
  refine V_c i_X7_init_82 ?_
  refine N_call2 (h' := hp_159) i_X7_init_84 mc_X3_init (n_ints (N := 8) (q := 103) (by decide +kernel) (by decide) (by decide) (by decide) (by decide +kernel) (by decide +kernel) (by decide +kernel) (by decide +kernel) (by decide +kernel) (rq (by decide +kernel))) (by decide) (by decide) (by decide) (by decide) (by decide +kernel) ?_
  refine N_putR (h' := hp_160) i_X7_init_87 (by decide +kernel) rfl (by intro C T N h; cases h; rfl) (fun q => rfl) (fun q => rfl) (by decide +kernel) (rq (by decide +kernel)) ?_
  exact N_ret i_X7_init_90 rfl (by decide) (by decide) rfl
set_option maxRecDepth 100000 in
set_option maxHeartbeats 4000000 in
theorem n_X1_init_11 : CtH 4 m_X1_init [.ref 90] hp_141 19 87 hp_170 := by
  refine CtH_of (by decide) rfl (Nat.le_of_ble_eq_true rfl) ?_
  refine V_al i_X1_init_0 rfl ?_
  refine V_objInit i_X1_init_1 (by decide) (by decide) w_oi1 w_oi2 ?_
  refine V_al i_X1_init_4 rfl ?_
  refine N_new (N := 9) (c := 9) (q := 91) (h' := hp_142) i_X1_init_5 (by intro C T n h; cases h; rfl) (by decide) (by decide) (rq (by decide +kernel)) (by decide +kernel) ?_
  refine V_dup i_X1_init_8 rfl ?_
  refine N_call0 (h' := hp_160) i_X1_init_9 mc_X7_init n_X7_init_10 (by decide) (by decide) (by decide) (by decide) (by decide +kernel) ?_
  refine N_putR (h' := hp_161) i_X1_init_12 (by decide +kernel) rfl (by intro C T N h; cases h; rfl) (fun q => rfl) (fun q => rfl) (by decide +kernel) (rq (by decide +kernel)) ?_
  refine V_al i_X1_init_15 rfl ?_
  refine N_new (N := 2) (c := 2) (q := 104) (h' := hp_162) i_X1_init_16 (by intro C T n h; cases h; rfl) (by decide) (by decide) (rq (by decide +kernel)) (by decide +kernel) ?_
  refine V_dup i_X1_init_19 rfl ?_
  refine V_c i_X1_init_20 ?_
  refine V_c i_X1_init_22 ?_
  refine N_call2 (h' := hp_163) i_X1_init_24 mc_X3_init (n_ints (N := 7) (q := 105) (by decide +kernel) (by decide) (by decide) (by decide) (by decide +kernel) (by decide +kernel) (by decide +kernel) (by decide +kernel) (by decide +kernel) (rq (by decide +kernel))) (by decide) (by decide) (by decide) (by decide) (by decide +kernel) ?_
  refine N_putR (h' := hp_164) i_X1_init_27 (by decide +kernel) rfl (by intro C T N h; cases h; rfl) (fun q => rfl) (fun q => rfl) (by decide +kernel) (rq (by decide +kernel)) ?_
  refine V_al i_X1_init_30 rfl ?_
  refine N_new (N := 2) (c := 2) (q := 106) (h' := hp_165) i_X1_init_31 (by intro C T n h; cases h; rfl) (by decide) (by decide) (rq (by decide +kernel)) (by decide +kernel) ?_
  refine V_dup i_X1_init_34 rfl ?_
  refine V_c i_X1_init_35 ?_
  refine V_c i_X1_init_36 ?_
  refine N_call2 (h' := hp_166) i_X1_init_37 mc_X3_init (n_ints (N := 4) (q := 107) (by decide +kernel) (by decide) (by decide) (by decide) (by decide +kernel) (by decide +kernel) (by decide +kernel) (by decide +kernel) (by decide +kernel) (rq (by decide +kernel))) (by decide) (by decide) (by decide) (by decide) (by decide +kernel) ?_
  refine N_putR (h' := hp_167) i_X1_init_40 (by decide +kernel) rfl (by intro C T N h; cases h; rfl) (fun q => rfl) (fun q => rfl) (by decide +kernel) (rq (by decide +kernel)) ?_
  refine V_al i_X1_init_43 rfl ?_
  refine N_new (N := 2) (c := 2) (q := 108) (h' := hp_168) i_X1_init_44 (by intro C T n h; cases h; rfl) (by decide) (by decide) (rq (by decide +kernel)) (by decide +kernel) ?_
  refine V_dup i_X1_init_47 rfl ?_
  refine V_c i_X1_init_48 ?_
  refine V_c i_X1_init_50 ?_
  refine N_call2 (h' := hp_169) i_X1_init_52 mc_X3_init (n_ints (N := 7) (q := 109) (by decide +kernel) (by decide) (by decide) (by decide) (by decide +kernel) (by decide +kernel) (by decide +kernel) (by decide +kernel) (by decide +kernel) (rq (by decide +kernel))) (by decide) (by decide) (by decide) (by decide) (by decide +kernel) ?_
  refine N_putR (h' := hp_170) i_X1_init_55 (by decide +kernel) rfl (by intro C T N h; cases h; rfl) (fun q => rfl) (fun q => rfl) (by decide +kernel) (rq (by decide +kernel)) ?_
  exact N_ret i_X1_init_58 rfl (by decide) (by decide) rfl
set_option maxRecDepth 100000 in
set_option maxHeartbeats 4000000 in
theorem n_X2_init_12 : CtH 3 m_X2_init [.ref 131] hp_205 4 17 hp_211 := by
  refine CtH_of (by decide) rfl (Nat.le_of_ble_eq_true rfl) ?_
  refine V_al i_X2_init_0 rfl ?_
  refine V_objInit i_X2_init_1 (by decide) (by decide) w_oi1 w_oi2 ?_
  refine V_al i_X2_init_4 rfl ?_
  refine N_new (N := 2) (c := 2) (q := 132) (h' := hp_206) i_X2_init_5 (by intro C T n h; cases h; rfl) (by decide) (by decide) (rq (by decide +kernel)) (by decide +kernel) ?_
  refine V_dup i_X2_init_8 rfl ?_
  refine V_c i_X2_init_9 ?_
  refine V_c i_X2_init_11 ?_
  refine N_call2 (h' := hp_207) i_X2_init_13 mc_X3_init (n_ints (N := 7) (q := 133) (by decide +kernel) (by decide) (by decide) (by decide) (by decide +kernel) (by decide +kernel) (by decide +kernel) (by decide +kernel) (by decide +kernel) (rq (by decide +kernel))) (by decide) (by decide) (by decide) (by decide) (by decide +kernel) ?_
  refine N_putR (h' := hp_208) i_X2_init_16 (by decide +kernel) rfl (by intro C T N h; cases h; rfl) (fun q => rfl) (fun q => rfl) (by decide +kernel) (rq (by decide +kernel)) ?_
  refine V_al i_X2_init_19 rfl ?_
  refine N_new (N := 1) (c := 1) (q := 134) (h' := hp_209) i_X2_init_20 (by intro C T n h; cases h; rfl) (by decide) (by decide) (rq (by decide +kernel)) (by decide +kernel) ?_
  refine V_dup i_X2_init_23 rfl ?_
  refine V_c i_X2_init_24 ?_
  refine N_call1 (h' := hp_210) i_X2_init_26 mc_X4_init (n_longs (N := 7) (q := 135) (by decide +kernel) (by decide) (by decide) (by decide) (by decide +kernel) (by decide +kernel) (rq (by decide +kernel)) (by decide +kernel)) (by decide) (by decide) (by decide) (by decide) (by decide +kernel) ?_
  refine N_putR (h' := hp_211) i_X2_init_29 (by decide +kernel) rfl (by intro C T N h; cases h; rfl) (fun q => rfl) (fun q => rfl) (by decide +kernel) (rq (by decide +kernel)) ?_
  exact N_ret i_X2_init_32 rfl (by decide) (by decide) rfl
set_option maxRecDepth 100000 in
set_option maxHeartbeats 4000000 in
theorem n_X2_init_13 : CtH 3 m_X2_init [.ref 136] hp_213 4 17 hp_219 := by
  refine CtH_of (by decide) rfl (Nat.le_of_ble_eq_true rfl) ?_
  refine V_al i_X2_init_0 rfl ?_
  refine V_objInit i_X2_init_1 (by decide) (by decide) w_oi1 w_oi2 ?_
  refine V_al i_X2_init_4 rfl ?_
  refine N_new (N := 2) (c := 2) (q := 137) (h' := hp_214) i_X2_init_5 (by intro C T n h; cases h; rfl) (by decide) (by decide) (rq (by decide +kernel)) (by decide +kernel) ?_
  refine V_dup i_X2_init_8 rfl ?_
  refine V_c i_X2_init_9 ?_
  refine V_c i_X2_init_11 ?_
  refine N_call2 (h' := hp_215) i_X2_init_13 mc_X3_init (n_ints (N := 7) (q := 138) (by decide +kernel) (by decide) (by decide) (by decide) (by decide +kernel) (by decide +kernel) (by decide +kernel) (by decide +kernel) (by decide +kernel) (rq (by decide +kernel))) (by decide) (by decide) (by decide) (by decide) (by decide +kernel) ?_
  refine N_putR (h' := hp_216) i_X2_init_16 (by decide +kernel) rfl (by intro C T N h; cases h; rfl) (fun q => rfl) (fun q => rfl) (by decide +kernel) (rq (by decide +kernel)) ?_
  refine V_al i_X2_init_19 rfl ?_
  refine N_new (N := 1) (c := 1) (q := 139) (h' := hp_217) i_X2_init_20 (by intro C T n h; cases h; rfl) (by decide) (by decide) (rq (by decide +kernel)) (by decide +kernel) ?_
  refine V_dup i_X2_init_23 rfl ?_
  refine V_c i_X2_init_24 ?_
  refine N_call1 (h' := hp_218) i_X2_init_26 mc_X4_init (n_longs (N := 7) (q := 140) (by decide +kernel) (by decide) (by decide) (by decide) (by decide +kernel) (by decide +kernel) (rq (by decide +kernel)) (by decide +kernel)) (by decide) (by decide) (by decide) (by decide) (by decide +kernel) ?_
  refine N_putR (h' := hp_219) i_X2_init_29 (by decide +kernel) rfl (by intro C T N h; cases h; rfl) (fun q => rfl) (fun q => rfl) (by decide +kernel) (rq (by decide +kernel)) ?_
  exact N_ret i_X2_init_32 rfl (by decide) (by decide) rfl
set_option maxRecDepth 100000 in
set_option maxHeartbeats 4000000 in
theorem n_X2_init_14 : CtH 3 m_X2_init [.ref 141] hp_221 4 17 hp_227 := by
  refine CtH_of (by decide) rfl (Nat.le_of_ble_eq_true rfl) ?_
  refine V_al i_X2_init_0 rfl ?_
  refine V_objInit i_X2_init_1 (by decide) (by decide) w_oi1 w_oi2 ?_
  refine V_al i_X2_init_4 rfl ?_
  refine N_new (N := 2) (c := 2) (q := 142) (h' := hp_222) i_X2_init_5 (by intro C T n h; cases h; rfl) (by decide) (by decide) (rq (by decide +kernel)) (by decide +kernel) ?_
  refine V_dup i_X2_init_8 rfl ?_
  refine V_c i_X2_init_9 ?_
  refine V_c i_X2_init_11 ?_
  refine N_call2 (h' := hp_223) i_X2_init_13 mc_X3_init (n_ints (N := 7) (q := 143) (by decide +kernel) (by decide) (by decide) (by decide) (by decide +kernel) (by decide +kernel) (by decide +kernel) (by decide +kernel) (by decide +kernel) (rq (by decide +kernel))) (by decide) (by decide) (by decide) (by decide) (by decide +kernel) ?_
  refine N_putR (h' := hp_224) i_X2_init_16 (by decide +kernel) rfl (by intro C T N h; cases h; rfl) (fun q => rfl) (fun q => rfl) (by decide +kernel) (rq (by decide +kernel)) ?_
  refine V_al i_X2_init_19 rfl ?_
  refine N_new (N := 1) (c := 1) (q := 144) (h' := hp_225) i_X2_init_20 (by intro C T n h; cases h; rfl) (by decide) (by decide) (rq (by decide +kernel)) (by decide +kernel) ?_
  refine V_dup i_X2_init_23 rfl ?_
  refine V_c i_X2_init_24 ?_
  refine N_call1 (h' := hp_226) i_X2_init_26 mc_X4_init (n_longs (N := 7) (q := 145) (by decide +kernel) (by decide) (by decide) (by decide) (by decide +kernel) (by decide +kernel) (rq (by decide +kernel)) (by decide +kernel)) (by decide) (by decide) (by decide) (by decide) (by decide +kernel) ?_
  refine N_putR (h' := hp_227) i_X2_init_29 (by decide +kernel) rfl (by intro C T N h; cases h; rfl) (fun q => rfl) (fun q => rfl) (by decide +kernel) (rq (by decide +kernel)) ?_
  exact N_ret i_X2_init_32 rfl (by decide) (by decide) rfl
set_option maxRecDepth 100000 in
set_option maxHeartbeats 4000000 in
theorem n_X10_init_15 : CtH 5 m_X10_init [.ref 0] hp_0 145 1217 hp_228 := by
  refine CtH_of (by decide) rfl (Nat.le_of_ble_eq_true rfl) ?_
  refine V_al i_X10_init_0 rfl ?_
  refine V_objInit i_X10_init_1 (by decide) (by decide) w_oi1 w_oi2 ?_
  refine V_al i_X10_init_4 rfl ?_
  refine V_c i_X10_init_5 ?_
  refine N_newA (N := 6) (q := 1) (h' := hp_1) i_X10_init_7 (by decide) (by decide) (by decide) (by decide) (by decide) (rq (by decide +kernel)) (by decide +kernel) ?_
  refine N_putR (h' := hp_2) i_X10_init_10 (by decide +kernel) rfl (by intro C T N h; cases h; rfl) (fun q => rfl) (fun q => rfl) (by decide +kernel) (rq (by decide +kernel)) ?_
  refine V_al i_X10_init_13 rfl ?_
  refine V_c i_X10_init_14 ?_
  refine N_newA (N := 4) (q := 2) (h' := hp_3) i_X10_init_15 (by decide) (by decide) (by decide) (by decide) (by decide) (rq (by decide +kernel)) (by decide +kernel) ?_
  refine N_putR (h' := hp_4) i_X10_init_18 (by decide +kernel) rfl (by intro C T N h; cases h; rfl) (fun q => rfl) (fun q => rfl) (by decide +kernel) (rq (by decide +kernel)) ?_
  refine V_al i_X10_init_21 rfl ?_
  refine N_new (N := 5) (c := 5) (q := 3) (h' := hp_5) i_X10_init_22 (by intro C T n h; cases h; rfl) (by decide) (by decide) (rq (by decide +kernel)) (by decide +kernel) ?_
  refine V_dup i_X10_init_25 rfl ?_
  refine N_call0 (h' := hp_11) i_X10_init_26 mc_X6_init n_X6_init_0 (by decide) (by decide) (by decide) (by decide) (by decide +kernel) ?_
  refine N_putR (h' := hp_12) i_X10_init_29 (by decide +kernel) rfl (by intro C T N h; cases h; rfl) (fun q => rfl) (fun q => rfl) (by decide +kernel) (rq (by decide +kernel)) ?_
  refine V_al i_X10_init_32 rfl ?_
  refine N_new (N := 6) (c := 6) (q := 8) (h' := hp_13) i_X10_init_33 (by intro C T n h; cases h; rfl) (by decide) (by decide) (rq (by decide +kernel)) (by decide +kernel) ?_
  refine V_dup i_X10_init_36 rfl ?_
  refine N_call0 (h' := hp_22) i_X10_init_37 mc_X0_init n_X0_init_1 (by decide) (by decide) (by decide) (by decide) (by decide +kernel) ?_
  refine N_putR (h' := hp_23) i_X10_init_40 (by decide +kernel) rfl (by intro C T N h; cases h; rfl) (fun q => rfl) (fun q => rfl) (by decide +kernel) (rq (by decide +kernel)) ?_
  refine V_al i_X10_init_43 rfl ?_
  refine N_new (N := 7) (c := 7) (q := 15) (h' := hp_24) i_X10_init_44 (by intro C T n h; cases h; rfl) (by decide) (by decide) (rq (by decide +kernel)) (by decide +kernel) ?_
  refine V_dup i_X10_init_47 rfl ?_
  refine N_call0 (h' := hp_30) i_X10_init_48 mc_X2_init n_X2_init_2 (by decide) (by decide) (by decide) (by decide) (by decide +kernel) ?_
  refine N_putR (h' := hp_31) i_X10_init_51 (by decide +kernel) rfl (by intro C T N h; cases h; rfl) (fun q => rfl) (fun q => rfl) (by decide +kernel) (rq (by decide +kernel)) ?_
  refine V_al i_X10_init_54 rfl ?_
  refine V_c i_X10_init_55 ?_
  refine N_newA (N := 3) (q := 20) (h' := hp_32) i_X10_init_56 (by decide) (by decide) (by decide) (by decide) (by decide) (rq (by decide +kernel)) (by decide +kernel) ?_
  refine N_putR (h' := hp_33) i_X10_init_59 (by decide +kernel) rfl (by intro C T N h; cases h; rfl) (fun q => rfl) (fun q => rfl) (by decide +kernel) (rq (by decide +kernel)) ?_
  refine V_al i_X10_init_62 rfl ?_
  refine N_new (N := 9) (c := 9) (q := 21) (h' := hp_34) i_X10_init_63 (by intro C T n h; cases h; rfl) (by decide) (by decide) (rq (by decide +kernel)) (by decide +kernel) ?_
  refine V_dup i_X10_init_66 rfl ?_
  refine N_call0 (h' := hp_52) i_X10_init_67 mc_X7_init n_X7_init_3 (by decide) (by decide) (by decide) (by decide) (by decide +kernel) ?_
  refine N_putR (h' := hp_53) i_X10_init_70 (by decide +kernel) rfl (by intro C T N h; cases h; rfl) (fun q => rfl) (fun q => rfl) (by decide +kernel) (rq (by decide +kernel)) ?_
  refine V_al i_X10_init_73 rfl ?_
  refine N_new (N := 9) (c := 9) (q := 34) (h' := hp_54) i_X10_init_74 (by intro C T n h; cases h; rfl) (by decide) (by decide) (rq (by decide +kernel)) (by decide +kernel) ?_
  refine V_dup i_X10_init_77 rfl ?_
  refine N_call0 (h' := hp_72) i_X10_init_78 mc_X7_init n_X7_init_4 (by decide) (by decide) (by decide) (by decide) (by decide +kernel) ?_
  refine N_putR (h' := hp_73) i_X10_init_81 (by decide +kernel) rfl (by intro C T N h; cases h; rfl) (fun q => rfl) (fun q => rfl) (by decide +kernel) (rq (by decide +kernel)) ?_
  refine V_al i_X10_init_84 rfl ?_
  refine N_new (N := 3) (c := 3) (q := 47) (h' := hp_74) i_X10_init_85 (by intro C T n h; cases h; rfl) (by decide) (by decide) (rq (by decide +kernel)) (by decide +kernel) ?_
  refine V_dup i_X10_init_88 rfl ?_
  refine N_call0 (h' := hp_117) i_X10_init_89 mc_X5_init n_X5_init_7 (by decide) (by decide) (by decide) (by decide) (by decide +kernel) ?_
  refine N_putR (h' := hp_118) i_X10_init_92 (by decide +kernel) rfl (by intro C T N h; cases h; rfl) (fun q => rfl) (fun q => rfl) (by decide +kernel) (rq (by decide +kernel)) ?_
  refine V_al i_X10_init_95 rfl ?_
  refine N_new (N := 6) (c := 6) (q := 76) (h' := hp_119) i_X10_init_96 (by intro C T n h; cases h; rfl) (by decide) (by decide) (rq (by decide +kernel)) (by decide +kernel) ?_
  refine V_dup i_X10_init_99 rfl ?_
  refine N_call0 (h' := hp_139) i_X10_init_100 mc_X9_init n_X9_init_9 (by decide) (by decide) (by decide) (by decide) (by decide +kernel) ?_
  refine N_putR (h' := hp_140) i_X10_init_103 (by decide +kernel) rfl (by intro C T N h; cases h; rfl) (fun q => rfl) (fun q => rfl) (by decide +kernel) (rq (by decide +kernel)) ?_
  refine V_al i_X10_init_106 rfl ?_
  refine N_new (N := 6) (c := 6) (q := 90) (h' := hp_141) i_X10_init_107 (by intro C T n h; cases h; rfl) (by decide) (by decide) (rq (by decide +kernel)) (by decide +kernel) ?_
  refine V_dup i_X10_init_110 rfl ?_
  refine N_call0 (h' := hp_170) i_X10_init_111 mc_X1_init n_X1_init_11 (by decide) (by decide) (by decide) (by decide) (by decide +kernel) ?_
  refine N_putR (h' := hp_171) i_X10_init_114 (by decide +kernel) rfl (by intro C T N h; cases h; rfl) (fun q => rfl) (fun q => rfl) (by decide +kernel) (rq (by decide +kernel)) ?_
  refine V_al i_X10_init_117 rfl ?_
  refine V_c i_X10_init_118 ?_
  refine N_newI (N := 6) (q := 110) (h' := hp_172) i_X10_init_120 (by decide) (by decide) (by decide) (by decide) (by decide) (rq (by decide +kernel)) (by decide +kernel) ?_
  refine N_putR (h' := hp_173) i_X10_init_122 (by decide +kernel) rfl (by intro C T N h; cases h; rfl) (fun q => rfl) (fun q => rfl) (by decide +kernel) (rq (by decide +kernel)) ?_
  refine V_al i_X10_init_125 rfl ?_
  refine V_cl i_X10_init_126 ?_
  refine N_putJ (h' := hp_174) i_X10_init_127 (by decide +kernel) (by decide +kernel) (rq (by decide +kernel)) ?_
  refine V_c i_X10_init_130 ?_
  refine V_is (L' := [(0, _), (1, _)]) i_X10_init_131 (by decide) ⟨rfl, rfl, trivial⟩ ?_
  refine V_il i_X10_init_132 rfl ?_
  refine V_al i_X10_init_133 rfl ?_
  refine V_getR (a2 := 1) i_X10_init_134 (by decide +kernel) (by decide +kernel) ?_
  refine V_alen3 (n := 6) (v := 6) i_X10_init_137 (by decide +kernel) (by decide) ?_
  refine V_ic_ge_f i_X10_init_138 (by decide) ?_
  refine V_al i_X10_init_141 rfl ?_
  refine V_getR (a2 := 1) i_X10_init_142 (by decide +kernel) (by decide +kernel) ?_
  refine V_il i_X10_init_145 rfl ?_
  refine N_new (N := 2) (c := 2) (q := 111) (h' := hp_175) i_X10_init_146 (by intro C T n h; cases h; rfl) (by decide) (by decide) (rq (by decide +kernel)) (by decide +kernel) ?_
  refine V_dup i_X10_init_149 rfl ?_
  refine V_c i_X10_init_150 ?_
  refine V_c i_X10_init_152 ?_
  refine N_call2 (h' := hp_176) i_X10_init_153 mc_X3_init (n_ints (N := 60) (q := 112) (by decide +kernel) (by decide) (by decide) (by decide) (by decide +kernel) (by decide +kernel) (by decide +kernel) (by decide +kernel) (by decide +kernel) (rq (by decide +kernel))) (by decide) (by decide) (by decide) (by decide) (by decide +kernel) ?_
  refine N_aast (n := 6) (j := 3) (i := 0) (cx := 3) (h' := hp_177) i_X10_init_156 (by decide +kernel) (by decide) (by decide +kernel) (by decide) (by decide) (by decide) (by decide +kernel) (rq (by decide +kernel)) ?_
  refine V_iinc (L' := [(0, _), (1, _)]) (n' := 1) i_X10_init_157 (by decide) rfl (by decide) ⟨rfl, rfl, trivial⟩ ?_
  refine V_goto i_X10_init_160 ?_
  refine V_il i_X10_init_132 rfl ?_
  refine V_al i_X10_init_133 rfl ?_
  refine V_getR (a2 := 1) i_X10_init_134 (by decide +kernel) (by decide +kernel) ?_
  refine V_alen3 (n := 6) (v := 6) i_X10_init_137 (by decide +kernel) (by decide) ?_
  refine V_ic_ge_f i_X10_init_138 (by decide) ?_
  refine V_al i_X10_init_141 rfl ?_
  refine V_getR (a2 := 1) i_X10_init_142 (by decide +kernel) (by decide +kernel) ?_
  refine V_il i_X10_init_145 rfl ?_
  refine N_new (N := 2) (c := 2) (q := 113) (h' := hp_178) i_X10_init_146 (by intro C T n h; cases h; rfl) (by decide) (by decide) (rq (by decide +kernel)) (by decide +kernel) ?_
  refine V_dup i_X10_init_149 rfl ?_
  refine V_c i_X10_init_150 ?_
  refine V_c i_X10_init_152 ?_
  refine N_call2 (h' := hp_179) i_X10_init_153 mc_X3_init (n_ints (N := 60) (q := 114) (by decide +kernel) (by decide) (by decide) (by decide) (by decide +kernel) (by decide +kernel) (by decide +kernel) (by decide +kernel) (by decide +kernel) (rq (by decide +kernel))) (by decide) (by decide) (by decide) (by decide) (by decide +kernel) ?_
  refine N_aast (n := 6) (j := 3) (i := 1) (cx := 3) (h' := hp_180) i_X10_init_156 (by decide +kernel) (by decide) (by decide +kernel) (by decide) (by decide) (by decide) (by decide +kernel) (rq (by decide +kernel)) ?_
  refine V_iinc (L' := [(0, _), (1, _)]) (n' := 1) i_X10_init_157 (by decide) rfl (by decide) ⟨rfl, rfl, trivial⟩ ?_
  refine V_goto i_X10_init_160 ?_
  refine V_il i_X10_init_132 rfl ?_
  refine V_al i_X10_init_133 rfl ?_
  refine V_getR (a2 := 1) i_X10_init_134 (by decide +kernel) (by decide +kernel) ?_
  refine V_alen3 (n := 6) (v := 6) i_X10_init_137 (by decide +kernel) (by decide) ?_
  refine V_ic_ge_f i_X10_init_138 (by decide) ?_
  refine V_al i_X10_init_141 rfl ?_
  refine V_getR (a2 := 1) i_X10_init_142 (by decide +kernel) (by decide +kernel) ?_
  refine V_il i_X10_init_145 rfl ?_
  refine N_new (N := 2) (c := 2) (q := 115) (h' := hp_181) i_X10_init_146 (by intro C T n h; cases h; rfl) (by decide) (by decide) (rq (by decide +kernel)) (by decide +kernel) ?_
  refine V_dup i_X10_init_149 rfl ?_
  refine V_c i_X10_init_150 ?_
  refine V_c i_X10_init_152 ?_
  refine N_call2 (h' := hp_182) i_X10_init_153 mc_X3_init (n_ints (N := 60) (q := 116) (by decide +kernel) (by decide) (by decide) (by decide) (by decide +kernel) (by decide +kernel) (by decide +kernel) (by decide +kernel) (by decide +kernel) (rq (by decide +kernel))) (by decide) (by decide) (by decide) (by decide) (by decide +kernel) ?_
  refine N_aast (n := 6) (j := 3) (i := 2) (cx := 3) (h' := hp_183) i_X10_init_156 (by decide +kernel) (by decide) (by decide +kernel) (by decide) (by decide) (by decide) (by decide +kernel) (rq (by decide +kernel)) ?_
  refine V_iinc (L' := [(0, _), (1, _)]) (n' := 1) i_X10_init_157 (by decide) rfl (by decide) ⟨rfl, rfl, trivial⟩ ?_
  refine V_goto i_X10_init_160 ?_
  refine V_il i_X10_init_132 rfl ?_
  refine V_al i_X10_init_133 rfl ?_
  refine V_getR (a2 := 1) i_X10_init_134 (by decide +kernel) (by decide +kernel) ?_
  refine V_alen3 (n := 6) (v := 6) i_X10_init_137 (by decide +kernel) (by decide) ?_
  refine V_ic_ge_f i_X10_init_138 (by decide) ?_
  refine V_al i_X10_init_141 rfl ?_
  refine V_getR (a2 := 1) i_X10_init_142 (by decide +kernel) (by decide +kernel) ?_
  refine V_il i_X10_init_145 rfl ?_
  refine N_new (N := 2) (c := 2) (q := 117) (h' := hp_184) i_X10_init_146 (by intro C T n h; cases h; rfl) (by decide) (by decide) (rq (by decide +kernel)) (by decide +kernel) ?_
  refine V_dup i_X10_init_149 rfl ?_
  refine V_c i_X10_init_150 ?_
  refine V_c i_X10_init_152 ?_
  refine N_call2 (h' := hp_185) i_X10_init_153 mc_X3_init (n_ints (N := 60) (q := 118) (by decide +kernel) (by decide) (by decide) (by decide) (by decide +kernel) (by decide +kernel) (by decide +kernel) (by decide +kernel) (by decide +kernel) (rq (by decide +kernel))) (by decide) (by decide) (by decide) (by decide) (by decide +kernel) ?_
  refine N_aast (n := 6) (j := 3) (i := 3) (cx := 3) (h' := hp_186) i_X10_init_156 (by decide +kernel) (by decide) (by decide +kernel) (by decide) (by decide) (by decide) (by decide +kernel) (rq (by decide +kernel)) ?_
  refine V_iinc (L' := [(0, _), (1, _)]) (n' := 1) i_X10_init_157 (by decide) rfl (by decide) ⟨rfl, rfl, trivial⟩ ?_
  refine V_goto i_X10_init_160 ?_
  refine V_il i_X10_init_132 rfl ?_
  refine V_al i_X10_init_133 rfl ?_
  refine V_getR (a2 := 1) i_X10_init_134 (by decide +kernel) (by decide +kernel) ?_
  refine V_alen3 (n := 6) (v := 6) i_X10_init_137 (by decide +kernel) (by decide) ?_
  refine V_ic_ge_f i_X10_init_138 (by decide) ?_
  refine V_al i_X10_init_141 rfl ?_
  refine V_getR (a2 := 1) i_X10_init_142 (by decide +kernel) (by decide +kernel) ?_
  refine V_il i_X10_init_145 rfl ?_
  refine N_new (N := 2) (c := 2) (q := 119) (h' := hp_187) i_X10_init_146 (by intro C T n h; cases h; rfl) (by decide) (by decide) (rq (by decide +kernel)) (by decide +kernel) ?_
  refine V_dup i_X10_init_149 rfl ?_
  refine V_c i_X10_init_150 ?_
  refine V_c i_X10_init_152 ?_
  refine N_call2 (h' := hp_188) i_X10_init_153 mc_X3_init (n_ints (N := 60) (q := 120) (by decide +kernel) (by decide) (by decide) (by decide) (by decide +kernel) (by decide +kernel) (by decide +kernel) (by decide +kernel) (by decide +kernel) (rq (by decide +kernel))) (by decide) (by decide) (by decide) (by decide) (by decide +kernel) ?_
  refine N_aast (n := 6) (j := 3) (i := 4) (cx := 3) (h' := hp_189) i_X10_init_156 (by decide +kernel) (by decide) (by decide +kernel) (by decide) (by decide) (by decide) (by decide +kernel) (rq (by decide +kernel)) ?_
  refine V_iinc (L' := [(0, _), (1, _)]) (n' := 1) i_X10_init_157 (by decide) rfl (by decide) ⟨rfl, rfl, trivial⟩ ?_
  refine V_goto i_X10_init_160 ?_
  refine V_il i_X10_init_132 rfl ?_
  refine V_al i_X10_init_133 rfl ?_
  refine V_getR (a2 := 1) i_X10_init_134 (by decide +kernel) (by decide +kernel) ?_
  refine V_alen3 (n := 6) (v := 6) i_X10_init_137 (by decide +kernel) (by decide) ?_
  refine V_ic_ge_f i_X10_init_138 (by decide) ?_
  refine V_al i_X10_init_141 rfl ?_
  refine V_getR (a2 := 1) i_X10_init_142 (by decide +kernel) (by decide +kernel) ?_
  refine V_il i_X10_init_145 rfl ?_
  refine N_new (N := 2) (c := 2) (q := 121) (h' := hp_190) i_X10_init_146 (by intro C T n h; cases h; rfl) (by decide) (by decide) (rq (by decide +kernel)) (by decide +kernel) ?_
  refine V_dup i_X10_init_149 rfl ?_
  refine V_c i_X10_init_150 ?_
  refine V_c i_X10_init_152 ?_
  refine N_call2 (h' := hp_191) i_X10_init_153 mc_X3_init (n_ints (N := 60) (q := 122) (by decide +kernel) (by decide) (by decide) (by decide) (by decide +kernel) (by decide +kernel) (by decide +kernel) (by decide +kernel) (by decide +kernel) (rq (by decide +kernel))) (by decide) (by decide) (by decide) (by decide) (by decide +kernel) ?_
  refine N_aast (n := 6) (j := 3) (i := 5) (cx := 3) (h' := hp_192) i_X10_init_156 (by decide +kernel) (by decide) (by decide +kernel) (by decide) (by decide) (by decide) (by decide +kernel) (rq (by decide +kernel)) ?_
  refine V_iinc (L' := [(0, _), (1, _)]) (n' := 1) i_X10_init_157 (by decide) rfl (by decide) ⟨rfl, rfl, trivial⟩ ?_
  refine V_goto i_X10_init_160 ?_
  refine V_il i_X10_init_132 rfl ?_
  refine V_al i_X10_init_133 rfl ?_
  refine V_getR (a2 := 1) i_X10_init_134 (by decide +kernel) (by decide +kernel) ?_
  refine V_alen3 (n := 6) (v := 6) i_X10_init_137 (by decide +kernel) (by decide) ?_
  refine V_ic_ge_t i_X10_init_138 (by decide) ?_
  refine V_c i_X10_init_163 ?_
  refine V_is (L' := [(0, _), (1, _)]) i_X10_init_164 (by decide) ⟨rfl, rfl, trivial⟩ ?_
  refine V_il i_X10_init_165 rfl ?_
  refine V_al i_X10_init_166 rfl ?_
  refine V_getR (a2 := 2) i_X10_init_167 (by decide +kernel) (by decide +kernel) ?_
  refine V_alen3 (n := 4) (v := 4) i_X10_init_170 (by decide +kernel) (by decide) ?_
  refine V_ic_ge_f i_X10_init_171 (by decide) ?_
  refine V_al i_X10_init_174 rfl ?_
  refine V_getR (a2 := 2) i_X10_init_175 (by decide +kernel) (by decide +kernel) ?_
  refine V_il i_X10_init_178 rfl ?_
  refine N_new (N := 2) (c := 2) (q := 123) (h' := hp_193) i_X10_init_179 (by intro C T n h; cases h; rfl) (by decide) (by decide) (rq (by decide +kernel)) (by decide +kernel) ?_
  refine V_dup i_X10_init_182 rfl ?_
  refine V_c i_X10_init_183 ?_
  refine V_c i_X10_init_185 ?_
  refine N_call2 (h' := hp_194) i_X10_init_186 mc_X3_init (n_ints (N := 60) (q := 124) (by decide +kernel) (by decide) (by decide) (by decide) (by decide +kernel) (by decide +kernel) (by decide +kernel) (by decide +kernel) (by decide +kernel) (rq (by decide +kernel))) (by decide) (by decide) (by decide) (by decide) (by decide +kernel) ?_
  refine N_aast (n := 4) (j := 3) (i := 0) (cx := 3) (h' := hp_195) i_X10_init_189 (by decide +kernel) (by decide) (by decide +kernel) (by decide) (by decide) (by decide) (by decide +kernel) (rq (by decide +kernel)) ?_
  refine V_iinc (L' := [(0, _), (1, _)]) (n' := 1) i_X10_init_190 (by decide) rfl (by decide) ⟨rfl, rfl, trivial⟩ ?_
  refine V_goto i_X10_init_193 ?_
  refine V_il i_X10_init_165 rfl ?_
  refine V_al i_X10_init_166 rfl ?_
  refine V_getR (a2 := 2) i_X10_init_167 (by decide +kernel) (by decide +kernel) ?_
  refine V_alen3 (n := 4) (v := 4) i_X10_init_170 (by decide +kernel) (by decide) ?_
  refine V_ic_ge_f i_X10_init_171 (by decide) ?_
  refine V_al i_X10_init_174 rfl ?_
  refine V_getR (a2 := 2) i_X10_init_175 (by decide +kernel) (by decide +kernel) ?_
  refine V_il i_X10_init_178 rfl ?_
  refine N_new (N := 2) (c := 2) (q := 125) (h' := hp_196) i_X10_init_179 (by intro C T n h; cases h; rfl) (by decide) (by decide) (rq (by decide +kernel)) (by decide +kernel) ?_
  refine V_dup i_X10_init_182 rfl ?_
  refine V_c i_X10_init_183 ?_
  refine V_c i_X10_init_185 ?_
  refine N_call2 (h' := hp_197) i_X10_init_186 mc_X3_init (n_ints (N := 60) (q := 126) (by decide +kernel) (by decide) (by decide) (by decide) (by decide +kernel) (by decide +kernel) (by decide +kernel) (by decide +kernel) (by decide +kernel) (rq (by decide +kernel))) (by decide) (by decide) (by decide) (by decide) (by decide +kernel) ?_
  refine N_aast (n := 4) (j := 3) (i := 1) (cx := 3) (h' := hp_198) i_X10_init_189 (by decide +kernel) (by decide) (by decide +kernel) (by decide) (by decide) (by decide) (by decide +kernel) (rq (by decide +kernel)) ?_
  refine V_iinc (L' := [(0, _), (1, _)]) (n' := 1) i_X10_init_190 (by decide) rfl (by decide) ⟨rfl, rfl, trivial⟩ ?_
  refine V_goto i_X10_init_193 ?_
  refine V_il i_X10_init_165 rfl ?_
  refine V_al i_X10_init_166 rfl ?_
  refine V_getR (a2 := 2) i_X10_init_167 (by decide +kernel) (by decide +kernel) ?_
  refine V_alen3 (n := 4) (v := 4) i_X10_init_170 (by decide +kernel) (by decide) ?_
  refine V_ic_ge_f i_X10_init_171 (by decide) ?_
  refine V_al i_X10_init_174 rfl ?_
  refine V_getR (a2 := 2) i_X10_init_175 (by decide +kernel) (by decide +kernel) ?_
  refine V_il i_X10_init_178 rfl ?_
  refine N_new (N := 2) (c := 2) (q := 127) (h' := hp_199) i_X10_init_179 (by intro C T n h; cases h; rfl) (by decide) (by decide) (rq (by decide +kernel)) (by decide +kernel) ?_
  refine V_dup i_X10_init_182 rfl ?_
  refine V_c i_X10_init_183 ?_
  refine V_c i_X10_init_185 ?_
  refine N_call2 (h' := hp_200) i_X10_init_186 mc_X3_init (n_ints (N := 60) (q := 128) (by decide +kernel) (by decide) (by decide) (by decide) (by decide +kernel) (by decide +kernel) (by decide +kernel) (by decide +kernel) (by decide +kernel) (rq (by decide +kernel))) (by decide) (by decide) (by decide) (by decide) (by decide +kernel) ?_
  refine N_aast (n := 4) (j := 3) (i := 2) (cx := 3) (h' := hp_201) i_X10_init_189 (by decide +kernel) (by decide) (by decide +kernel) (by decide) (by decide) (by decide) (by decide +kernel) (rq (by decide +kernel)) ?_
  refine V_iinc (L' := [(0, _), (1, _)]) (n' := 1) i_X10_init_190 (by decide) rfl (by decide) ⟨rfl, rfl, trivial⟩ ?_
  refine V_goto i_X10_init_193 ?_
  refine V_il i_X10_init_165 rfl ?_
  refine V_al i_X10_init_166 rfl ?_
  refine V_getR (a2 := 2) i_X10_init_167 (by decide +kernel) (by decide +kernel) ?_
  refine V_alen3 (n := 4) (v := 4) i_X10_init_170 (by decide +kernel) (by decide) ?_
  refine V_ic_ge_f i_X10_init_171 (by decide) ?_
  refine V_al i_X10_init_174 rfl ?_
  refine V_getR (a2 := 2) i_X10_init_175 (by decide +kernel) (by decide +kernel) ?_
  refine V_il i_X10_init_178 rfl ?_
  refine N_new (N := 2) (c := 2) (q := 129) (h' := hp_202) i_X10_init_179 (by intro C T n h; cases h; rfl) (by decide) (by decide) (rq (by decide +kernel)) (by decide +kernel) ?_
  refine V_dup i_X10_init_182 rfl ?_
  refine V_c i_X10_init_183 ?_
  refine V_c i_X10_init_185 ?_
  refine N_call2 (h' := hp_203) i_X10_init_186 mc_X3_init (n_ints (N := 60) (q := 130) (by decide +kernel) (by decide) (by decide) (by decide) (by decide +kernel) (by decide +kernel) (by decide +kernel) (by decide +kernel) (by decide +kernel) (rq (by decide +kernel))) (by decide) (by decide) (by decide) (by decide) (by decide +kernel) ?_
  refine N_aast (n := 4) (j := 3) (i := 3) (cx := 3) (h' := hp_204) i_X10_init_189 (by decide +kernel) (by decide) (by decide +kernel) (by decide) (by decide) (by decide) (by decide +kernel) (rq (by decide +kernel)) ?_
  refine V_iinc (L' := [(0, _), (1, _)]) (n' := 1) i_X10_init_190 (by decide) rfl (by decide) ⟨rfl, rfl, trivial⟩ ?_
  refine V_goto i_X10_init_193 ?_
  refine V_il i_X10_init_165 rfl ?_
  refine V_al i_X10_init_166 rfl ?_
  refine V_getR (a2 := 2) i_X10_init_167 (by decide +kernel) (by decide +kernel) ?_
  refine V_alen3 (n := 4) (v := 4) i_X10_init_170 (by decide +kernel) (by decide) ?_
  refine V_ic_ge_t i_X10_init_171 (by decide) ?_
  refine V_c i_X10_init_196 ?_
  refine V_is (L' := [(0, _), (1, _)]) i_X10_init_197 (by decide) ⟨rfl, rfl, trivial⟩ ?_
  refine V_il i_X10_init_198 rfl ?_
  refine V_al i_X10_init_199 rfl ?_
  refine V_getR (a2 := 20) i_X10_init_200 (by decide +kernel) (by decide +kernel) ?_
  refine V_alen4 (n := 3) (v := 3) i_X10_init_203 (by decide +kernel) (by decide) ?_
  refine V_ic_ge_f i_X10_init_204 (by decide) ?_
  refine V_al i_X10_init_207 rfl ?_
  refine V_getR (a2 := 20) i_X10_init_208 (by decide +kernel) (by decide +kernel) ?_
  refine V_il i_X10_init_211 rfl ?_
  refine N_new (N := 7) (c := 7) (q := 131) (h' := hp_205) i_X10_init_212 (by intro C T n h; cases h; rfl) (by decide) (by decide) (rq (by decide +kernel)) (by decide +kernel) ?_
  refine V_dup i_X10_init_215 rfl ?_
  refine N_call0 (h' := hp_211) i_X10_init_216 mc_X2_init n_X2_init_12 (by decide) (by decide) (by decide) (by decide) (by decide +kernel) ?_
  refine N_aast (n := 3) (j := 4) (i := 0) (cx := 2) (h' := hp_212) i_X10_init_219 (by decide +kernel) (by decide) (by decide +kernel) (by decide) (by decide) (by decide) (by decide +kernel) (rq (by decide +kernel)) ?_
  refine V_iinc (L' := [(0, _), (1, _)]) (n' := 1) i_X10_init_220 (by decide) rfl (by decide) ⟨rfl, rfl, trivial⟩ ?_
  refine V_goto i_X10_init_223 ?_
  refine V_il i_X10_init_198 rfl ?_
  refine V_al i_X10_init_199 rfl ?_
  refine V_getR (a2 := 20) i_X10_init_200 (by decide +kernel) (by decide +kernel) ?_
  refine V_alen4 (n := 3) (v := 3) i_X10_init_203 (by decide +kernel) (by decide) ?_
  refine V_ic_ge_f i_X10_init_204 (by decide) ?_
  refine V_al i_X10_init_207 rfl ?_
  refine V_getR (a2 := 20) i_X10_init_208 (by decide +kernel) (by decide +kernel) ?_
  refine V_il i_X10_init_211 rfl ?_
  refine N_new (N := 7) (c := 7) (q := 136) (h' := hp_213) i_X10_init_212 (by intro C T n h; cases h; rfl) (by decide) (by decide) (rq (by decide +kernel)) (by decide +kernel) ?_
  refine V_dup i_X10_init_215 rfl ?_
  refine N_call0 (h' := hp_219) i_X10_init_216 mc_X2_init n_X2_init_13 (by decide) (by decide) (by decide) (by decide) (by decide +kernel) ?_
  refine N_aast (n := 3) (j := 4) (i := 1) (cx := 2) (h' := hp_220) i_X10_init_219 (by decide +kernel) (by decide) (by decide +kernel) (by decide) (by decide) (by decide) (by decide +kernel) (rq (by decide +kernel)) ?_
  refine V_iinc (L' := [(0, _), (1, _)]) (n' := 1) i_X10_init_220 (by decide) rfl (by decide) ⟨rfl, rfl, trivial⟩ ?_
  refine V_goto i_X10_init_223 ?_
  refine V_il i_X10_init_198 rfl ?_
  refine V_al i_X10_init_199 rfl ?_
  refine V_getR (a2 := 20) i_X10_init_200 (by decide +kernel) (by decide +kernel) ?_
  refine V_alen4 (n := 3) (v := 3) i_X10_init_203 (by decide +kernel) (by decide) ?_
  refine V_ic_ge_f i_X10_init_204 (by decide) ?_
  refine V_al i_X10_init_207 rfl ?_
  refine V_getR (a2 := 20) i_X10_init_208 (by decide +kernel) (by decide +kernel) ?_
  refine V_il i_X10_init_211 rfl ?_
  refine N_new (N := 7) (c := 7) (q := 141) (h' := hp_221) i_X10_init_212 (by intro C T n h; cases h; rfl) (by decide) (by decide) (rq (by decide +kernel)) (by decide +kernel) ?_
  refine V_dup i_X10_init_215 rfl ?_
  refine N_call0 (h' := hp_227) i_X10_init_216 mc_X2_init n_X2_init_14 (by decide) (by decide) (by decide) (by decide) (by decide +kernel) ?_
  refine N_aast (n := 3) (j := 4) (i := 2) (cx := 2) (h' := hp_228) i_X10_init_219 (by decide +kernel) (by decide) (by decide +kernel) (by decide) (by decide) (by decide) (by decide +kernel) (rq (by decide +kernel)) ?_
  refine V_iinc (L' := [(0, _), (1, _)]) (n' := 1) i_X10_init_220 (by decide) rfl (by decide) ⟨rfl, rfl, trivial⟩ ?_
  refine V_goto i_X10_init_223 ?_
  refine V_il i_X10_init_198 rfl ?_
  refine V_al i_X10_init_199 rfl ?_
  refine V_getR (a2 := 20) i_X10_init_200 (by decide +kernel) (by decide +kernel) ?_
  refine V_alen4 (n := 3) (v := 3) i_X10_init_203 (by decide +kernel) (by decide) ?_
  refine V_ic_ge_t i_X10_init_204 (by decide) ?_
  exact N_ret i_X10_init_226 rfl (by decide) (by decide) rfl
set_option maxRecDepth 100000 in
set_option maxHeartbeats 4000000 in
theorem n_X11_init_16 : CtH 2 m_X11_init [.ref 146] hp_229 28 845 hp_302 := by
  refine CtH_of (by decide) rfl (Nat.le_of_ble_eq_true rfl) ?_
  refine V_al i_X11_init_0 rfl ?_
  refine V_objInit i_X11_init_1 (by decide) (by decide) w_oi1 w_oi2 ?_
  refine V_al i_X11_init_4 rfl ?_
  refine V_c i_X11_init_5 ?_
  refine N_newI (N := 6) (q := 147) (h' := hp_230) i_X11_init_7 (by decide) (by decide) (by decide) (by decide) (by decide) (rq (by decide +kernel)) (by decide +kernel) ?_
  refine N_putR (h' := hp_231) i_X11_init_9 (by decide +kernel) rfl (by intro C T N h; cases h; rfl) (fun q => rfl) (fun q => rfl) (by decide +kernel) (rq (by decide +kernel)) ?_
  refine V_al i_X11_init_12 rfl ?_
  refine V_cl i_X11_init_13 ?_
  refine N_putJ (h' := hp_232) i_X11_init_14 (by decide +kernel) (by decide +kernel) (rq (by decide +kernel)) ?_
  refine V_al i_X11_init_17 rfl ?_
  refine V_c i_X11_init_18 ?_
  refine N_newI (N := 6) (q := 148) (h' := hp_233) i_X11_init_20 (by decide) (by decide) (by decide) (by decide) (by decide) (rq (by decide +kernel)) (by decide +kernel) ?_
  refine N_putR (h' := hp_234) i_X11_init_22 (by decide +kernel) rfl (by intro C T N h; cases h; rfl) (fun q => rfl) (fun q => rfl) (by decide +kernel) (rq (by decide +kernel)) ?_
  refine V_al i_X11_init_25 rfl ?_
  refine V_c i_X11_init_26 ?_
  refine N_newI (N := 360) (q := 149) (h' := hp_235) i_X11_init_29 (by decide) (by decide) (by decide) (by decide) (by decide) (rq (by decide +kernel)) (by decide +kernel) ?_
  refine N_putR (h' := hp_236) i_X11_init_31 (by decide +kernel) rfl (by intro C T N h; cases h; rfl) (fun q => rfl) (fun q => rfl) (by decide +kernel) (rq (by decide +kernel)) ?_
  refine V_al i_X11_init_34 rfl ?_
  refine V_c i_X11_init_35 ?_
  refine N_newI (N := 4) (q := 150) (h' := hp_237) i_X11_init_36 (by decide) (by decide) (by decide) (by decide) (by decide) (rq (by decide +kernel)) (by decide +kernel) ?_
  refine N_putR (h' := hp_238) i_X11_init_38 (by decide +kernel) rfl (by intro C T N h; cases h; rfl) (fun q => rfl) (fun q => rfl) (by decide +kernel) (rq (by decide +kernel)) ?_
  refine V_al i_X11_init_41 rfl ?_
  refine V_c i_X11_init_42 ?_
  refine N_newI (N := 240) (q := 151) (h' := hp_239) i_X11_init_45 (by decide) (by decide) (by decide) (by decide) (by decide) (rq (by decide +kernel)) (by decide +kernel) ?_
  refine N_putR (h' := hp_240) i_X11_init_47 (by decide +kernel) rfl (by intro C T N h; cases h; rfl) (fun q => rfl) (fun q => rfl) (by decide +kernel) (rq (by decide +kernel)) ?_
  refine V_al i_X11_init_50 rfl ?_
  refine V_c i_X11_init_51 ?_
  refine N_newI (N := 7) (q := 152) (h' := hp_241) i_X11_init_53 (by decide) (by decide) (by decide) (by decide) (by decide) (rq (by decide +kernel)) (by decide +kernel) ?_
  refine N_putR (h' := hp_242) i_X11_init_55 (by decide +kernel) rfl (by intro C T N h; cases h; rfl) (fun q => rfl) (fun q => rfl) (by decide +kernel) (rq (by decide +kernel)) ?_
  refine V_al i_X11_init_58 rfl ?_
  refine V_c i_X11_init_59 ?_
  refine N_newI (N := 7) (q := 153) (h' := hp_243) i_X11_init_61 (by decide) (by decide) (by decide) (by decide) (by decide) (rq (by decide +kernel)) (by decide +kernel) ?_
  refine N_putR (h' := hp_244) i_X11_init_63 (by decide +kernel) rfl (by intro C T N h; cases h; rfl) (fun q => rfl) (fun q => rfl) (by decide +kernel) (rq (by decide +kernel)) ?_
  refine V_al i_X11_init_66 rfl ?_
  refine V_c i_X11_init_67 ?_
  refine N_newI (N := 7) (q := 154) (h' := hp_245) i_X11_init_69 (by decide) (by decide) (by decide) (by decide) (by decide) (rq (by decide +kernel)) (by decide +kernel) ?_
  refine N_putR (h' := hp_246) i_X11_init_71 (by decide +kernel) rfl (by intro C T N h; cases h; rfl) (fun q => rfl) (fun q => rfl) (by decide +kernel) (rq (by decide +kernel)) ?_
  refine V_al i_X11_init_74 rfl ?_
  refine V_c i_X11_init_75 ?_
  refine N_newI (N := 7) (q := 155) (h' := hp_247) i_X11_init_77 (by decide) (by decide) (by decide) (by decide) (by decide) (rq (by decide +kernel)) (by decide +kernel) ?_
  refine N_putR (h' := hp_248) i_X11_init_79 (by decide +kernel) rfl (by intro C T N h; cases h; rfl) (fun q => rfl) (fun q => rfl) (by decide +kernel) (rq (by decide +kernel)) ?_
  refine V_al i_X11_init_82 rfl ?_
  refine V_c i_X11_init_83 ?_
  refine N_newI (N := 7) (q := 156) (h' := hp_249) i_X11_init_85 (by decide) (by decide) (by decide) (by decide) (by decide) (rq (by decide +kernel)) (by decide +kernel) ?_
  refine N_putR (h' := hp_250) i_X11_init_87 (by decide +kernel) rfl (by intro C T N h; cases h; rfl) (fun q => rfl) (fun q => rfl) (by decide +kernel) (rq (by decide +kernel)) ?_
  refine V_al i_X11_init_90 rfl ?_
  refine V_cl i_X11_init_91 ?_
  refine N_putJ (h' := hp_251) i_X11_init_92 (by decide +kernel) (by decide +kernel) (rq (by decide +kernel)) ?_
  refine V_al i_X11_init_95 rfl ?_
  refine V_c i_X11_init_96 ?_
  refine N_newI (N := 7) (q := 157) (h' := hp_252) i_X11_init_98 (by decide) (by decide) (by decide) (by decide) (by decide) (rq (by decide +kernel)) (by decide +kernel) ?_
  refine N_putR (h' := hp_253) i_X11_init_100 (by decide +kernel) rfl (by intro C T N h; cases h; rfl) (fun q => rfl) (fun q => rfl) (by decide +kernel) (rq (by decide +kernel)) ?_
  refine V_al i_X11_init_103 rfl ?_
  refine V_c i_X11_init_104 ?_
  refine N_newJ (N := 7) (q := 158) (h' := hp_254) i_X11_init_106 (by decide) (by decide) (by decide) (by decide) (by decide) (rq (by decide +kernel)) (by decide +kernel) ?_
  refine N_putR (h' := hp_255) i_X11_init_108 (by decide +kernel) rfl (by intro C T N h; cases h; rfl) (fun q => rfl) (fun q => rfl) (by decide +kernel) (rq (by decide +kernel)) ?_
  refine V_al i_X11_init_111 rfl ?_
  refine V_c i_X11_init_112 ?_
  refine N_newJ (N := 7) (q := 159) (h' := hp_256) i_X11_init_114 (by decide) (by decide) (by decide) (by decide) (by decide) (rq (by decide +kernel)) (by decide +kernel) ?_
  refine N_putR (h' := hp_257) i_X11_init_116 (by decide +kernel) rfl (by intro C T N h; cases h; rfl) (fun q => rfl) (fun q => rfl) (by decide +kernel) (rq (by decide +kernel)) ?_
  refine V_al i_X11_init_119 rfl ?_
  refine V_cl i_X11_init_120 ?_
  refine N_putJ (h' := hp_258) i_X11_init_121 (by decide +kernel) (by decide +kernel) (rq (by decide +kernel)) ?_
  refine V_al i_X11_init_124 rfl ?_
  refine V_c i_X11_init_125 ?_
  refine N_newI (N := 7) (q := 160) (h' := hp_259) i_X11_init_127 (by decide) (by decide) (by decide) (by decide) (by decide) (rq (by decide +kernel)) (by decide +kernel) ?_
  refine N_putR (h' := hp_260) i_X11_init_129 (by decide +kernel) rfl (by intro C T N h; cases h; rfl) (fun q => rfl) (fun q => rfl) (by decide +kernel) (rq (by decide +kernel)) ?_
  refine V_al i_X11_init_132 rfl ?_
  refine V_c i_X11_init_133 ?_
  refine N_newJ (N := 7) (q := 161) (h' := hp_261) i_X11_init_135 (by decide) (by decide) (by decide) (by decide) (by decide) (rq (by decide +kernel)) (by decide +kernel) ?_
  refine N_putR (h' := hp_262) i_X11_init_137 (by decide +kernel) rfl (by intro C T N h; cases h; rfl) (fun q => rfl) (fun q => rfl) (by decide +kernel) (rq (by decide +kernel)) ?_
  refine V_al i_X11_init_140 rfl ?_
  refine V_c i_X11_init_141 ?_
  refine N_newJ (N := 7) (q := 162) (h' := hp_263) i_X11_init_143 (by decide) (by decide) (by decide) (by decide) (by decide) (rq (by decide +kernel)) (by decide +kernel) ?_
  refine N_putR (h' := hp_264) i_X11_init_145 (by decide +kernel) rfl (by intro C T N h; cases h; rfl) (fun q => rfl) (fun q => rfl) (by decide +kernel) (rq (by decide +kernel)) ?_
  refine V_al i_X11_init_148 rfl ?_
  refine V_cl i_X11_init_149 ?_
  refine N_putJ (h' := hp_265) i_X11_init_150 (by decide +kernel) (by decide +kernel) (rq (by decide +kernel)) ?_
  refine V_al i_X11_init_153 rfl ?_
  refine V_c i_X11_init_154 ?_
  refine N_newI (N := 3) (q := 163) (h' := hp_266) i_X11_init_155 (by decide) (by decide) (by decide) (by decide) (by decide) (rq (by decide +kernel)) (by decide +kernel) ?_
  refine N_putR (h' := hp_267) i_X11_init_157 (by decide +kernel) rfl (by intro C T N h; cases h; rfl) (fun q => rfl) (fun q => rfl) (by decide +kernel) (rq (by decide +kernel)) ?_
  refine V_al i_X11_init_160 rfl ?_
  refine V_c i_X11_init_161 ?_
  refine N_newI (N := 3) (q := 164) (h' := hp_268) i_X11_init_162 (by decide) (by decide) (by decide) (by decide) (by decide) (rq (by decide +kernel)) (by decide +kernel) ?_
  refine N_putR (h' := hp_269) i_X11_init_164 (by decide +kernel) rfl (by intro C T N h; cases h; rfl) (fun q => rfl) (fun q => rfl) (by decide +kernel) (rq (by decide +kernel)) ?_
  refine V_al i_X11_init_167 rfl ?_
  refine V_c i_X11_init_168 ?_
  refine N_newI (N := 21) (q := 165) (h' := hp_270) i_X11_init_170 (by decide) (by decide) (by decide) (by decide) (by decide) (rq (by decide +kernel)) (by decide +kernel) ?_
  refine N_putR (h' := hp_271) i_X11_init_172 (by decide +kernel) rfl (by intro C T N h; cases h; rfl) (fun q => rfl) (fun q => rfl) (by decide +kernel) (rq (by decide +kernel)) ?_
  refine V_al i_X11_init_175 rfl ?_
  refine V_c i_X11_init_176 ?_
  refine N_newJ (N := 21) (q := 166) (h' := hp_272) i_X11_init_178 (by decide) (by decide) (by decide) (by decide) (by decide) (rq (by decide +kernel)) (by decide +kernel) ?_
  refine N_putR (h' := hp_273) i_X11_init_180 (by decide +kernel) rfl (by intro C T N h; cases h; rfl) (fun q => rfl) (fun q => rfl) (by decide +kernel) (rq (by decide +kernel)) ?_
  refine V_al i_X11_init_183 rfl ?_
  refine V_c i_X11_init_184 ?_
  refine N_newJ (N := 21) (q := 167) (h' := hp_274) i_X11_init_186 (by decide) (by decide) (by decide) (by decide) (by decide) (rq (by decide +kernel)) (by decide +kernel) ?_
  refine N_putR (h' := hp_275) i_X11_init_188 (by decide +kernel) rfl (by intro C T N h; cases h; rfl) (fun q => rfl) (fun q => rfl) (by decide +kernel) (rq (by decide +kernel)) ?_
  refine V_al i_X11_init_191 rfl ?_
  refine V_c i_X11_init_192 ?_
  refine N_newJ (N := 3) (q := 168) (h' := hp_276) i_X11_init_193 (by decide) (by decide) (by decide) (by decide) (by decide) (rq (by decide +kernel)) (by decide +kernel) ?_
  refine N_putR (h' := hp_277) i_X11_init_195 (by decide +kernel) rfl (by intro C T N h; cases h; rfl) (fun q => rfl) (fun q => rfl) (by decide +kernel) (rq (by decide +kernel)) ?_
  refine V_al i_X11_init_198 rfl ?_
  refine V_c i_X11_init_199 ?_
  refine N_newJ (N := 3) (q := 169) (h' := hp_278) i_X11_init_200 (by decide) (by decide) (by decide) (by decide) (by decide) (rq (by decide +kernel)) (by decide +kernel) ?_
  refine N_putR (h' := hp_279) i_X11_init_202 (by decide +kernel) rfl (by intro C T N h; cases h; rfl) (fun q => rfl) (fun q => rfl) (by decide +kernel) (rq (by decide +kernel)) ?_
  refine V_al i_X11_init_205 rfl ?_
  refine V_c i_X11_init_206 ?_
  refine N_newI (N := 7) (q := 170) (h' := hp_280) i_X11_init_208 (by decide) (by decide) (by decide) (by decide) (by decide) (rq (by decide +kernel)) (by decide +kernel) ?_
  refine N_putR (h' := hp_281) i_X11_init_210 (by decide +kernel) rfl (by intro C T N h; cases h; rfl) (fun q => rfl) (fun q => rfl) (by decide +kernel) (rq (by decide +kernel)) ?_
  refine V_al i_X11_init_213 rfl ?_
  refine V_c i_X11_init_214 ?_
  refine N_newJ (N := 7) (q := 171) (h' := hp_282) i_X11_init_216 (by decide) (by decide) (by decide) (by decide) (by decide) (rq (by decide +kernel)) (by decide +kernel) ?_
  refine N_putR (h' := hp_283) i_X11_init_218 (by decide +kernel) rfl (by intro C T N h; cases h; rfl) (fun q => rfl) (fun q => rfl) (by decide +kernel) (rq (by decide +kernel)) ?_
  refine V_al i_X11_init_221 rfl ?_
  refine V_c i_X11_init_222 ?_
  refine N_newJ (N := 7) (q := 172) (h' := hp_284) i_X11_init_224 (by decide) (by decide) (by decide) (by decide) (by decide) (rq (by decide +kernel)) (by decide +kernel) ?_
  refine N_putR (h' := hp_285) i_X11_init_226 (by decide +kernel) rfl (by intro C T N h; cases h; rfl) (fun q => rfl) (fun q => rfl) (by decide +kernel) (rq (by decide +kernel)) ?_
  refine V_al i_X11_init_229 rfl ?_
  refine V_c i_X11_init_230 ?_
  refine N_newI (N := 49) (q := 173) (h' := hp_286) i_X11_init_232 (by decide) (by decide) (by decide) (by decide) (by decide) (rq (by decide +kernel)) (by decide +kernel) ?_
  refine N_putR (h' := hp_287) i_X11_init_234 (by decide +kernel) rfl (by intro C T N h; cases h; rfl) (fun q => rfl) (fun q => rfl) (by decide +kernel) (rq (by decide +kernel)) ?_
  refine V_al i_X11_init_237 rfl ?_
  refine V_c i_X11_init_238 ?_
  refine N_newI (N := 7) (q := 174) (h' := hp_288) i_X11_init_240 (by decide) (by decide) (by decide) (by decide) (by decide) (rq (by decide +kernel)) (by decide +kernel) ?_
  refine N_putR (h' := hp_289) i_X11_init_242 (by decide +kernel) rfl (by intro C T N h; cases h; rfl) (fun q => rfl) (fun q => rfl) (by decide +kernel) (rq (by decide +kernel)) ?_
  refine V_c i_X11_init_245 ?_
  refine V_is (L' := [(0, _), (1, _)]) i_X11_init_246 (by decide) ⟨rfl, rfl, trivial⟩ ?_
  refine V_il i_X11_init_247 rfl ?_
  refine V_c i_X11_init_248 ?_
  refine V_ic_ge_f i_X11_init_250 (by decide) ?_
  refine V_al i_X11_init_253 rfl ?_
  refine V_getR (a2 := 148) i_X11_init_254 (by decide +kernel) (by decide +kernel) ?_
  refine V_il i_X11_init_257 rfl ?_
  refine V_c i_X11_init_258 ?_
  refine N_iast (n := 6) (i := 0) (h' := hp_290) i_X11_init_259 (by decide +kernel) (by decide) (by decide) (by decide) (by decide +kernel) (rq (by decide +kernel)) ?_
  refine V_iinc (L' := [(0, _), (1, _)]) (n' := 1) i_X11_init_260 (by decide) rfl (by decide) ⟨rfl, rfl, trivial⟩ ?_
  refine V_goto i_X11_init_263 ?_
  refine V_il i_X11_init_247 rfl ?_
  refine V_c i_X11_init_248 ?_
  refine V_ic_ge_f i_X11_init_250 (by decide) ?_
  refine V_al i_X11_init_253 rfl ?_
  refine V_getR (a2 := 148) i_X11_init_254 (by decide +kernel) (by decide +kernel) ?_
  refine V_il i_X11_init_257 rfl ?_
  refine V_c i_X11_init_258 ?_
  refine N_iast (n := 6) (i := 1) (h' := hp_291) i_X11_init_259 (by decide +kernel) (by decide) (by decide) (by decide) (by decide +kernel) (rq (by decide +kernel)) ?_
  refine V_iinc (L' := [(0, _), (1, _)]) (n' := 1) i_X11_init_260 (by decide) rfl (by decide) ⟨rfl, rfl, trivial⟩ ?_
  refine V_goto i_X11_init_263 ?_
  refine V_il i_X11_init_247 rfl ?_
  refine V_c i_X11_init_248 ?_
  refine V_ic_ge_f i_X11_init_250 (by decide) ?_
  refine V_al i_X11_init_253 rfl ?_
  refine V_getR (a2 := 148) i_X11_init_254 (by decide +kernel) (by decide +kernel) ?_
  refine V_il i_X11_init_257 rfl ?_
  refine V_c i_X11_init_258 ?_
  refine N_iast (n := 6) (i := 2) (h' := hp_292) i_X11_init_259 (by decide +kernel) (by decide) (by decide) (by decide) (by decide +kernel) (rq (by decide +kernel)) ?_
  refine V_iinc (L' := [(0, _), (1, _)]) (n' := 1) i_X11_init_260 (by decide) rfl (by decide) ⟨rfl, rfl, trivial⟩ ?_
  refine V_goto i_X11_init_263 ?_
  refine V_il i_X11_init_247 rfl ?_
  refine V_c i_X11_init_248 ?_
  refine V_ic_ge_f i_X11_init_250 (by decide) ?_
  refine V_al i_X11_init_253 rfl ?_
  refine V_getR (a2 := 148) i_X11_init_254 (by decide +kernel) (by decide +kernel) ?_
  refine V_il i_X11_init_257 rfl ?_
  refine V_c i_X11_init_258 ?_
  refine N_iast (n := 6) (i := 3) (h' := hp_293) i_X11_init_259 (by decide +kernel) (by decide) (by decide) (by decide) (by decide +kernel) (rq (by decide +kernel)) ?_
  refine V_iinc (L' := [(0, _), (1, _)]) (n' := 1) i_X11_init_260 (by decide) rfl (by decide) ⟨rfl, rfl, trivial⟩ ?_
  refine V_goto i_X11_init_263 ?_
  refine V_il i_X11_init_247 rfl ?_
  refine V_c i_X11_init_248 ?_
  refine V_ic_ge_f i_X11_init_250 (by decide) ?_
  refine V_al i_X11_init_253 rfl ?_
  refine V_getR (a2 := 148) i_X11_init_254 (by decide +kernel) (by decide +kernel) ?_
  refine V_il i_X11_init_257 rfl ?_
  refine V_c i_X11_init_258 ?_
  refine N_iast (n := 6) (i := 4) (h' := hp_294) i_X11_init_259 (by decide +kernel) (by decide) (by decide) (by decide) (by decide +kernel) (rq (by decide +kernel)) ?_
  refine V_iinc (L' := [(0, _), (1, _)]) (n' := 1) i_X11_init_260 (by decide) rfl (by decide) ⟨rfl, rfl, trivial⟩ ?_
  refine V_goto i_X11_init_263 ?_
  refine V_il i_X11_init_247 rfl ?_
  refine V_c i_X11_init_248 ?_
  refine V_ic_ge_f i_X11_init_250 (by decide) ?_
  refine V_al i_X11_init_253 rfl ?_
  refine V_getR (a2 := 148) i_X11_init_254 (by decide +kernel) (by decide +kernel) ?_
  refine V_il i_X11_init_257 rfl ?_
  refine V_c i_X11_init_258 ?_
  refine N_iast (n := 6) (i := 5) (h' := hp_295) i_X11_init_259 (by decide +kernel) (by decide) (by decide) (by decide) (by decide +kernel) (rq (by decide +kernel)) ?_
  refine V_iinc (L' := [(0, _), (1, _)]) (n' := 1) i_X11_init_260 (by decide) rfl (by decide) ⟨rfl, rfl, trivial⟩ ?_
  refine V_goto i_X11_init_263 ?_
  refine V_il i_X11_init_247 rfl ?_
  refine V_c i_X11_init_248 ?_
  refine V_ic_ge_t i_X11_init_250 (by decide) ?_
  refine V_c i_X11_init_266 ?_
  refine V_is (L' := [(0, _), (1, _)]) i_X11_init_267 (by decide) ⟨rfl, rfl, trivial⟩ ?_
  refine V_il i_X11_init_268 rfl ?_
  refine V_c i_X11_init_269 ?_
  refine V_ic_ge_f i_X11_init_270 (by decide) ?_
  refine V_al i_X11_init_273 rfl ?_
  refine V_getR (a2 := 150) i_X11_init_274 (by decide +kernel) (by decide +kernel) ?_
  refine V_il i_X11_init_277 rfl ?_
  refine V_c i_X11_init_278 ?_
  refine N_iast (n := 4) (i := 0) (h' := hp_296) i_X11_init_279 (by decide +kernel) (by decide) (by decide) (by decide) (by decide +kernel) (rq (by decide +kernel)) ?_
  refine V_iinc (L' := [(0, _), (1, _)]) (n' := 1) i_X11_init_280 (by decide) rfl (by decide) ⟨rfl, rfl, trivial⟩ ?_
  refine V_goto i_X11_init_283 ?_
  refine V_il i_X11_init_268 rfl ?_
  refine V_c i_X11_init_269 ?_
  refine V_ic_ge_f i_X11_init_270 (by decide) ?_
  refine V_al i_X11_init_273 rfl ?_
  refine V_getR (a2 := 150) i_X11_init_274 (by decide +kernel) (by decide +kernel) ?_
  refine V_il i_X11_init_277 rfl ?_
  refine V_c i_X11_init_278 ?_
  refine N_iast (n := 4) (i := 1) (h' := hp_297) i_X11_init_279 (by decide +kernel) (by decide) (by decide) (by decide) (by decide +kernel) (rq (by decide +kernel)) ?_
  refine V_iinc (L' := [(0, _), (1, _)]) (n' := 1) i_X11_init_280 (by decide) rfl (by decide) ⟨rfl, rfl, trivial⟩ ?_
  refine V_goto i_X11_init_283 ?_
  refine V_il i_X11_init_268 rfl ?_
  refine V_c i_X11_init_269 ?_
  refine V_ic_ge_f i_X11_init_270 (by decide) ?_
  refine V_al i_X11_init_273 rfl ?_
  refine V_getR (a2 := 150) i_X11_init_274 (by decide +kernel) (by decide +kernel) ?_
  refine V_il i_X11_init_277 rfl ?_
  refine V_c i_X11_init_278 ?_
  refine N_iast (n := 4) (i := 2) (h' := hp_298) i_X11_init_279 (by decide +kernel) (by decide) (by decide) (by decide) (by decide +kernel) (rq (by decide +kernel)) ?_
  refine V_iinc (L' := [(0, _), (1, _)]) (n' := 1) i_X11_init_280 (by decide) rfl (by decide) ⟨rfl, rfl, trivial⟩ ?_
  refine V_goto i_X11_init_283 ?_
  refine V_il i_X11_init_268 rfl ?_
  refine V_c i_X11_init_269 ?_
  refine V_ic_ge_f i_X11_init_270 (by decide) ?_
  refine V_al i_X11_init_273 rfl ?_
  refine V_getR (a2 := 150) i_X11_init_274 (by decide +kernel) (by decide +kernel) ?_
  refine V_il i_X11_init_277 rfl ?_
  refine V_c i_X11_init_278 ?_
  refine N_iast (n := 4) (i := 3) (h' := hp_299) i_X11_init_279 (by decide +kernel) (by decide) (by decide) (by decide) (by decide +kernel) (rq (by decide +kernel)) ?_
  refine V_iinc (L' := [(0, _), (1, _)]) (n' := 1) i_X11_init_280 (by decide) rfl (by decide) ⟨rfl, rfl, trivial⟩ ?_
  refine V_goto i_X11_init_283 ?_
  refine V_il i_X11_init_268 rfl ?_
  refine V_c i_X11_init_269 ?_
  refine V_ic_ge_t i_X11_init_270 (by decide) ?_
  refine V_c i_X11_init_286 ?_
  refine V_is (L' := [(0, _), (1, _)]) i_X11_init_287 (by decide) ⟨rfl, rfl, trivial⟩ ?_
  refine V_il i_X11_init_288 rfl ?_
  refine V_c i_X11_init_289 ?_
  refine V_ic_ge_f i_X11_init_290 (by decide) ?_
  refine V_al i_X11_init_293 rfl ?_
  refine V_getR (a2 := 163) i_X11_init_294 (by decide +kernel) (by decide +kernel) ?_
  refine V_il i_X11_init_297 rfl ?_
  refine V_c i_X11_init_298 ?_
  refine N_iast (n := 3) (i := 0) (h' := hp_300) i_X11_init_299 (by decide +kernel) (by decide) (by decide) (by decide) (by decide +kernel) (rq (by decide +kernel)) ?_
  refine V_iinc (L' := [(0, _), (1, _)]) (n' := 1) i_X11_init_300 (by decide) rfl (by decide) ⟨rfl, rfl, trivial⟩ ?_
  refine V_goto i_X11_init_303 ?_
  refine V_il i_X11_init_288 rfl ?_
  refine V_c i_X11_init_289 ?_
  refine V_ic_ge_f i_X11_init_290 (by decide) ?_
  refine V_al i_X11_init_293 rfl ?_
  refine V_getR (a2 := 163) i_X11_init_294 (by decide +kernel) (by decide +kernel) ?_
  refine V_il i_X11_init_297 rfl ?_
  refine V_c i_X11_init_298 ?_
  refine N_iast (n := 3) (i := 1) (h' := hp_301) i_X11_init_299 (by decide +kernel) (by decide) (by decide) (by decide) (by decide +kernel) (rq (by decide +kernel)) ?_
  refine V_iinc (L' := [(0, _), (1, _)]) (n' := 1) i_X11_init_300 (by decide) rfl (by decide) ⟨rfl, rfl, trivial⟩ ?_
  refine V_goto i_X11_init_303 ?_
  refine V_il i_X11_init_288 rfl ?_
  refine V_c i_X11_init_289 ?_
  refine V_ic_ge_f i_X11_init_290 (by decide) ?_
  refine V_al i_X11_init_293 rfl ?_
  refine V_getR (a2 := 163) i_X11_init_294 (by decide +kernel) (by decide +kernel) ?_
  refine V_il i_X11_init_297 rfl ?_
  refine V_c i_X11_init_298 ?_
  refine N_iast (n := 3) (i := 2) (h' := hp_302) i_X11_init_299 (by decide +kernel) (by decide) (by decide) (by decide) (by decide +kernel) (rq (by decide +kernel)) ?_
  refine V_iinc (L' := [(0, _), (1, _)]) (n' := 1) i_X11_init_300 (by decide) rfl (by decide) ⟨rfl, rfl, trivial⟩ ?_
  refine V_goto i_X11_init_303 ?_
  refine V_il i_X11_init_288 rfl ?_
  refine V_c i_X11_init_289 ?_
  refine V_ic_ge_t i_X11_init_290 (by decide) ?_
  exact N_ret i_X11_init_306 rfl (by decide) (by decide) rfl
