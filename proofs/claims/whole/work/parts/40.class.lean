/-! the class: its cells, needs, forgets -/
def rC_0 : Int → Int := fun j => if j = 0 then 1 else if j = 1 then 16 else if j = 2 then 17 else if j = 3 then 25 else if j = 4 then 30 else if j = 5 then 34 else if j = 6 then 40 else if j = 7 then 79 else if j = 8 then 82 else if j = 9 then 104 else -1
theorem rC_0_0 : rC_0 0 = 1 := rfl
theorem rC_0_1 : rC_0 1 = 16 := rfl
theorem rC_0_2 : rC_0 2 = 17 := rfl
theorem rC_0_3 : rC_0 3 = 25 := rfl
theorem rC_0_4 : rC_0 4 = 30 := rfl
theorem rC_0_5 : rC_0 5 = 34 := rfl
theorem rC_0_6 : rC_0 6 = 40 := rfl
theorem rC_0_7 : rC_0 7 = 79 := rfl
theorem rC_0_8 : rC_0 8 = 82 := rfl
theorem rC_0_9 : rC_0 9 = 104 := rfl
def rC_17 : Int → Int := fun j => if j = 0 then 18 else if j = 5 then 19 else -1
theorem rC_17_0 : rC_17 0 = 18 := rfl
theorem rC_17_5 : rC_17 5 = 19 := rfl
def rC_25 : Int → Int := fun j => if j = 0 then 1 + 1 else if j = 1 then 26 else if j = 2 then 27 else if j = 3 then 28 else if j = 4 then 29 else -1
theorem rC_25_0 : rC_25 0 = 1 + 1 := rfl
theorem rC_25_1 : rC_25 1 = 26 := rfl
theorem rC_25_2 : rC_25 2 = 27 := rfl
theorem rC_25_3 : rC_25 3 = 28 := rfl
theorem rC_25_4 : rC_25 4 = 29 := rfl
def rC_30 : Int → Int := fun j => if j = 0 then 1 else if j = 1 then 1 + 1 else if j = 2 then 25 else if j = 3 then 31 else if j = 4 then 32 else if j = 5 then 33 else -1
theorem rC_30_0 : rC_30 0 = 1 := rfl
theorem rC_30_1 : rC_30 1 = 1 + 1 := rfl
theorem rC_30_2 : rC_30 2 = 25 := rfl
theorem rC_30_3 : rC_30 3 = 31 := rfl
theorem rC_30_4 : rC_30 4 = 32 := rfl
theorem rC_30_5 : rC_30 5 = 33 := rfl
def rC_34 : Int → Int := fun j => if j = 0 then 30 else if j = 1 then 35 else if j = 2 then 36 else if j = 3 then 37 else if j = 4 then 38 else if j = 5 then 39 else -1
theorem rC_34_0 : rC_34 0 = 30 := rfl
theorem rC_34_1 : rC_34 1 = 35 := rfl
theorem rC_34_2 : rC_34 2 = 36 := rfl
theorem rC_34_3 : rC_34 3 = 37 := rfl
theorem rC_34_4 : rC_34 4 = 38 := rfl
theorem rC_34_5 : rC_34 5 = 39 := rfl
def rC_40 : Int → Int := fun j => if j = 0 then 1 else if j = 1 then 34 else if j = 2 then 41 else if j = 3 then 74 else if j = 4 then 75 else if j = 5 then 76 else if j = 6 then 77 else if j = 11 then 78 else -1
theorem rC_40_0 : rC_40 0 = 1 := rfl
theorem rC_40_1 : rC_40 1 = 34 := rfl
theorem rC_40_2 : rC_40 2 = 41 := rfl
theorem rC_40_3 : rC_40 3 = 74 := rfl
theorem rC_40_4 : rC_40 4 = 75 := rfl
theorem rC_40_5 : rC_40 5 = 76 := rfl
theorem rC_40_6 : rC_40 6 = 77 := rfl
theorem rC_40_11 : rC_40 11 = 78 := rfl
def rC_79 : Int → Int := fun j => if j = 0 then 1 else if j = 1 then 80 else if j = 2 then 81 else -1
theorem rC_79_0 : rC_79 0 = 1 := rfl
theorem rC_79_1 : rC_79 1 = 80 := rfl
theorem rC_79_2 : rC_79 2 = 81 := rfl
def rC_82 : Int → Int := fun j => if j = 0 then 1 else if j = 1 then 83 else if j = 2 then 89 else if j = 3 then 94 else if j = 4 then 98 else -1
theorem rC_82_0 : rC_82 0 = 1 := rfl
theorem rC_82_1 : rC_82 1 = 83 := rfl
theorem rC_82_2 : rC_82 2 = 89 := rfl
theorem rC_82_3 : rC_82 3 = 94 := rfl
theorem rC_82_4 : rC_82 4 = 98 := rfl
def rC_89 : Int → Int := fun j => if j = 0 then 83 else if j = 1 then 90 else if j = 2 then 91 else if j = 3 then 92 else if j = 4 then 93 else -1
theorem rC_89_0 : rC_89 0 = 83 := rfl
theorem rC_89_1 : rC_89 1 = 90 := rfl
theorem rC_89_2 : rC_89 2 = 91 := rfl
theorem rC_89_3 : rC_89 3 = 92 := rfl
theorem rC_89_4 : rC_89 4 = 93 := rfl
def rC_94 : Int → Int := fun j => if j = 0 then 1 else if j = 1 then 83 else if j = 2 then 89 else if j = 3 then 95 else if j = 4 then 96 else if j = 5 then 97 else -1
theorem rC_94_0 : rC_94 0 = 1 := rfl
theorem rC_94_1 : rC_94 1 = 83 := rfl
theorem rC_94_2 : rC_94 2 = 89 := rfl
theorem rC_94_3 : rC_94 3 = 95 := rfl
theorem rC_94_4 : rC_94 4 = 96 := rfl
theorem rC_94_5 : rC_94 5 = 97 := rfl
def rC_98 : Int → Int := fun j => if j = 0 then 94 else if j = 1 then 99 else if j = 2 then 100 else if j = 3 then 101 else if j = 4 then 102 else if j = 5 then 103 else -1
theorem rC_98_0 : rC_98 0 = 94 := rfl
theorem rC_98_1 : rC_98 1 = 99 := rfl
theorem rC_98_2 : rC_98 2 = 100 := rfl
theorem rC_98_3 : rC_98 3 = 101 := rfl
theorem rC_98_4 : rC_98 4 = 102 := rfl
theorem rC_98_5 : rC_98 5 = 103 := rfl
def rC_104 : Int → Int := fun j => if j = 0 then 105 else if j = 1 then 106 else if j = 2 then 107 else if j = 3 then 108 else -1
theorem rC_104_0 : rC_104 0 = 105 := rfl
theorem rC_104_1 : rC_104 1 = 106 := rfl
theorem rC_104_2 : rC_104 2 = 107 := rfl
theorem rC_104_3 : rC_104 3 = 108 := rfl
def r41 : Int → Int := fun j => if 0 ≤ j ∧ j < 32 then 42 + j else -1
/-- the class's cells: the Street at 1, the reader's draft at 19, the seller's tariff at 83, rows of longs at 42 to 73 -/
def lyC (S : aS) : Prop := (∀ j, 0 ≤ j → j < 32 → S (42 + j) = (14, 6, rN)) ∧ lyS S 1 ∧ lyT S 19 ∧ lyT S 83 ∧ S 0 = (10, 12, rC_0) ∧ S 16 = (16, 3, rN) ∧ S 17 = (5, 11, rC_17) ∧ S 18 = (12, 300, rN) ∧ S 25 = (4, 6, rC_25) ∧ S 26 = (13, 201, rN) ∧ S 27 = (13, 201, rN) ∧ S 28 = (13, 201, rN) ∧ S 29 = (13, 201, rN) ∧ S 30 = (3, 6, rC_30) ∧ S 31 = (13, 128, rN) ∧ S 32 = (13, 399, rN) ∧ S 33 = (13, 114, rN) ∧ S 34 = (1, 6, rC_34) ∧ S 35 = (13, 128, rN) ∧ S 36 = (13, 128, rN) ∧ S 37 = (13, 128, rN) ∧ S 38 = (13, 128, rN) ∧ S 39 = (13, 128, rN) ∧ S 40 = (2, 12, rC_40) ∧ S 41 = (17, 32, r41) ∧ S 74 = (13, 32, rN) ∧ S 75 = (13, 5, rN) ∧ S 76 = (15, 5, rN) ∧ S 77 = (13, 5, rN) ∧ S 78 = (13, 7, rN) ∧ S 79 = (0, 4, rC_79) ∧ S 80 = (14, 57, rN) ∧ S 81 = (14, 57, rN) ∧ S 82 = (6, 12, rC_82) ∧ S 89 = (4, 6, rC_89) ∧ S 90 = (13, 201, rN) ∧ S 91 = (13, 201, rN) ∧ S 92 = (13, 201, rN) ∧ S 93 = (13, 201, rN) ∧ S 94 = (3, 6, rC_94) ∧ S 95 = (13, 128, rN) ∧ S 96 = (13, 399, rN) ∧ S 97 = (13, 114, rN) ∧ S 98 = (1, 6, rC_98) ∧ S 99 = (13, 128, rN) ∧ S 100 = (13, 128, rN) ∧ S 101 = (13, 128, rN) ∧ S 102 = (13, 128, rN) ∧ S 103 = (13, 128, rN) ∧ S 104 = (9, 4, rC_104) ∧ S 105 = (13, 4, rN) ∧ S 106 = (13, 4, rN) ∧ S 107 = (14, 160, rN) ∧ S 108 = (14, 7, rN)
theorem sC_0 {S : aS} (h : lyC S) : S 0 = (10, 12, rC_0) := h.2.2.2.2.1
theorem sC_16 {S : aS} (h : lyC S) : S 16 = (16, 3, rN) := h.2.2.2.2.2.1
theorem sC_17 {S : aS} (h : lyC S) : S 17 = (5, 11, rC_17) := h.2.2.2.2.2.2.1
theorem sC_18 {S : aS} (h : lyC S) : S 18 = (12, 300, rN) := h.2.2.2.2.2.2.2.1
theorem sC_25 {S : aS} (h : lyC S) : S 25 = (4, 6, rC_25) := h.2.2.2.2.2.2.2.2.1
theorem sC_26 {S : aS} (h : lyC S) : S 26 = (13, 201, rN) := h.2.2.2.2.2.2.2.2.2.1
theorem sC_27 {S : aS} (h : lyC S) : S 27 = (13, 201, rN) := h.2.2.2.2.2.2.2.2.2.2.1
theorem sC_28 {S : aS} (h : lyC S) : S 28 = (13, 201, rN) := h.2.2.2.2.2.2.2.2.2.2.2.1
theorem sC_29 {S : aS} (h : lyC S) : S 29 = (13, 201, rN) := h.2.2.2.2.2.2.2.2.2.2.2.2.1
theorem sC_30 {S : aS} (h : lyC S) : S 30 = (3, 6, rC_30) := h.2.2.2.2.2.2.2.2.2.2.2.2.2.1
theorem sC_31 {S : aS} (h : lyC S) : S 31 = (13, 128, rN) := h.2.2.2.2.2.2.2.2.2.2.2.2.2.2.1
theorem sC_32 {S : aS} (h : lyC S) : S 32 = (13, 399, rN) := h.2.2.2.2.2.2.2.2.2.2.2.2.2.2.2.1
theorem sC_33 {S : aS} (h : lyC S) : S 33 = (13, 114, rN) := h.2.2.2.2.2.2.2.2.2.2.2.2.2.2.2.2.1
theorem sC_34 {S : aS} (h : lyC S) : S 34 = (1, 6, rC_34) := h.2.2.2.2.2.2.2.2.2.2.2.2.2.2.2.2.2.1
theorem sC_35 {S : aS} (h : lyC S) : S 35 = (13, 128, rN) := h.2.2.2.2.2.2.2.2.2.2.2.2.2.2.2.2.2.2.1
theorem sC_36 {S : aS} (h : lyC S) : S 36 = (13, 128, rN) := h.2.2.2.2.2.2.2.2.2.2.2.2.2.2.2.2.2.2.2.1
theorem sC_37 {S : aS} (h : lyC S) : S 37 = (13, 128, rN) := h.2.2.2.2.2.2.2.2.2.2.2.2.2.2.2.2.2.2.2.2.1
theorem sC_38 {S : aS} (h : lyC S) : S 38 = (13, 128, rN) := h.2.2.2.2.2.2.2.2.2.2.2.2.2.2.2.2.2.2.2.2.2.1
theorem sC_39 {S : aS} (h : lyC S) : S 39 = (13, 128, rN) := h.2.2.2.2.2.2.2.2.2.2.2.2.2.2.2.2.2.2.2.2.2.2.1
theorem sC_40 {S : aS} (h : lyC S) : S 40 = (2, 12, rC_40) := h.2.2.2.2.2.2.2.2.2.2.2.2.2.2.2.2.2.2.2.2.2.2.2.1
theorem sC_41 {S : aS} (h : lyC S) : S 41 = (17, 32, r41) := h.2.2.2.2.2.2.2.2.2.2.2.2.2.2.2.2.2.2.2.2.2.2.2.2.1
theorem sC_74 {S : aS} (h : lyC S) : S 74 = (13, 32, rN) := h.2.2.2.2.2.2.2.2.2.2.2.2.2.2.2.2.2.2.2.2.2.2.2.2.2.1
theorem sC_75 {S : aS} (h : lyC S) : S 75 = (13, 5, rN) := h.2.2.2.2.2.2.2.2.2.2.2.2.2.2.2.2.2.2.2.2.2.2.2.2.2.2.1
theorem sC_76 {S : aS} (h : lyC S) : S 76 = (15, 5, rN) := h.2.2.2.2.2.2.2.2.2.2.2.2.2.2.2.2.2.2.2.2.2.2.2.2.2.2.2.1
theorem sC_77 {S : aS} (h : lyC S) : S 77 = (13, 5, rN) := h.2.2.2.2.2.2.2.2.2.2.2.2.2.2.2.2.2.2.2.2.2.2.2.2.2.2.2.2.1
theorem sC_78 {S : aS} (h : lyC S) : S 78 = (13, 7, rN) := h.2.2.2.2.2.2.2.2.2.2.2.2.2.2.2.2.2.2.2.2.2.2.2.2.2.2.2.2.2.1
theorem sC_79 {S : aS} (h : lyC S) : S 79 = (0, 4, rC_79) := h.2.2.2.2.2.2.2.2.2.2.2.2.2.2.2.2.2.2.2.2.2.2.2.2.2.2.2.2.2.2.1
theorem sC_80 {S : aS} (h : lyC S) : S 80 = (14, 57, rN) := h.2.2.2.2.2.2.2.2.2.2.2.2.2.2.2.2.2.2.2.2.2.2.2.2.2.2.2.2.2.2.2.1
theorem sC_81 {S : aS} (h : lyC S) : S 81 = (14, 57, rN) := h.2.2.2.2.2.2.2.2.2.2.2.2.2.2.2.2.2.2.2.2.2.2.2.2.2.2.2.2.2.2.2.2.1
theorem sC_82 {S : aS} (h : lyC S) : S 82 = (6, 12, rC_82) := h.2.2.2.2.2.2.2.2.2.2.2.2.2.2.2.2.2.2.2.2.2.2.2.2.2.2.2.2.2.2.2.2.2.1
theorem sC_89 {S : aS} (h : lyC S) : S 89 = (4, 6, rC_89) := h.2.2.2.2.2.2.2.2.2.2.2.2.2.2.2.2.2.2.2.2.2.2.2.2.2.2.2.2.2.2.2.2.2.2.1
theorem sC_90 {S : aS} (h : lyC S) : S 90 = (13, 201, rN) := h.2.2.2.2.2.2.2.2.2.2.2.2.2.2.2.2.2.2.2.2.2.2.2.2.2.2.2.2.2.2.2.2.2.2.2.1
theorem sC_91 {S : aS} (h : lyC S) : S 91 = (13, 201, rN) := h.2.2.2.2.2.2.2.2.2.2.2.2.2.2.2.2.2.2.2.2.2.2.2.2.2.2.2.2.2.2.2.2.2.2.2.2.1
theorem sC_92 {S : aS} (h : lyC S) : S 92 = (13, 201, rN) := h.2.2.2.2.2.2.2.2.2.2.2.2.2.2.2.2.2.2.2.2.2.2.2.2.2.2.2.2.2.2.2.2.2.2.2.2.2.1
theorem sC_93 {S : aS} (h : lyC S) : S 93 = (13, 201, rN) := h.2.2.2.2.2.2.2.2.2.2.2.2.2.2.2.2.2.2.2.2.2.2.2.2.2.2.2.2.2.2.2.2.2.2.2.2.2.2.1
theorem sC_94 {S : aS} (h : lyC S) : S 94 = (3, 6, rC_94) := h.2.2.2.2.2.2.2.2.2.2.2.2.2.2.2.2.2.2.2.2.2.2.2.2.2.2.2.2.2.2.2.2.2.2.2.2.2.2.2.1
theorem sC_95 {S : aS} (h : lyC S) : S 95 = (13, 128, rN) := h.2.2.2.2.2.2.2.2.2.2.2.2.2.2.2.2.2.2.2.2.2.2.2.2.2.2.2.2.2.2.2.2.2.2.2.2.2.2.2.2.1
theorem sC_96 {S : aS} (h : lyC S) : S 96 = (13, 399, rN) := h.2.2.2.2.2.2.2.2.2.2.2.2.2.2.2.2.2.2.2.2.2.2.2.2.2.2.2.2.2.2.2.2.2.2.2.2.2.2.2.2.2.1
theorem sC_97 {S : aS} (h : lyC S) : S 97 = (13, 114, rN) := h.2.2.2.2.2.2.2.2.2.2.2.2.2.2.2.2.2.2.2.2.2.2.2.2.2.2.2.2.2.2.2.2.2.2.2.2.2.2.2.2.2.2.1
theorem sC_98 {S : aS} (h : lyC S) : S 98 = (1, 6, rC_98) := h.2.2.2.2.2.2.2.2.2.2.2.2.2.2.2.2.2.2.2.2.2.2.2.2.2.2.2.2.2.2.2.2.2.2.2.2.2.2.2.2.2.2.2.1
theorem sC_99 {S : aS} (h : lyC S) : S 99 = (13, 128, rN) := h.2.2.2.2.2.2.2.2.2.2.2.2.2.2.2.2.2.2.2.2.2.2.2.2.2.2.2.2.2.2.2.2.2.2.2.2.2.2.2.2.2.2.2.2.1
theorem sC_100 {S : aS} (h : lyC S) : S 100 = (13, 128, rN) := h.2.2.2.2.2.2.2.2.2.2.2.2.2.2.2.2.2.2.2.2.2.2.2.2.2.2.2.2.2.2.2.2.2.2.2.2.2.2.2.2.2.2.2.2.2.1
theorem sC_101 {S : aS} (h : lyC S) : S 101 = (13, 128, rN) := h.2.2.2.2.2.2.2.2.2.2.2.2.2.2.2.2.2.2.2.2.2.2.2.2.2.2.2.2.2.2.2.2.2.2.2.2.2.2.2.2.2.2.2.2.2.2.1
theorem sC_102 {S : aS} (h : lyC S) : S 102 = (13, 128, rN) := h.2.2.2.2.2.2.2.2.2.2.2.2.2.2.2.2.2.2.2.2.2.2.2.2.2.2.2.2.2.2.2.2.2.2.2.2.2.2.2.2.2.2.2.2.2.2.2.1
theorem sC_103 {S : aS} (h : lyC S) : S 103 = (13, 128, rN) := h.2.2.2.2.2.2.2.2.2.2.2.2.2.2.2.2.2.2.2.2.2.2.2.2.2.2.2.2.2.2.2.2.2.2.2.2.2.2.2.2.2.2.2.2.2.2.2.2.1
theorem sC_104 {S : aS} (h : lyC S) : S 104 = (9, 4, rC_104) := h.2.2.2.2.2.2.2.2.2.2.2.2.2.2.2.2.2.2.2.2.2.2.2.2.2.2.2.2.2.2.2.2.2.2.2.2.2.2.2.2.2.2.2.2.2.2.2.2.2.1
theorem sC_105 {S : aS} (h : lyC S) : S 105 = (13, 4, rN) := h.2.2.2.2.2.2.2.2.2.2.2.2.2.2.2.2.2.2.2.2.2.2.2.2.2.2.2.2.2.2.2.2.2.2.2.2.2.2.2.2.2.2.2.2.2.2.2.2.2.2.1
theorem sC_106 {S : aS} (h : lyC S) : S 106 = (13, 4, rN) := h.2.2.2.2.2.2.2.2.2.2.2.2.2.2.2.2.2.2.2.2.2.2.2.2.2.2.2.2.2.2.2.2.2.2.2.2.2.2.2.2.2.2.2.2.2.2.2.2.2.2.2.1
theorem sC_107 {S : aS} (h : lyC S) : S 107 = (14, 160, rN) := h.2.2.2.2.2.2.2.2.2.2.2.2.2.2.2.2.2.2.2.2.2.2.2.2.2.2.2.2.2.2.2.2.2.2.2.2.2.2.2.2.2.2.2.2.2.2.2.2.2.2.2.2.1
theorem sC_108 {S : aS} (h : lyC S) : S 108 = (14, 7, rN) := h.2.2.2.2.2.2.2.2.2.2.2.2.2.2.2.2.2.2.2.2.2.2.2.2.2.2.2.2.2.2.2.2.2.2.2.2.2.2.2.2.2.2.2.2.2.2.2.2.2.2.2.2.2
theorem dX3_forget_0 : decode cX3_forget 0 = .ok (.iconst 0, 1) := by decide +kernel
theorem dX3_forget_1 : decode cX3_forget 1 = .ok (.istore_n 2, 1) := by decide +kernel
theorem dX3_forget_2 : decode cX3_forget 2 = .ok (.iload_n 2, 1) := by decide +kernel
theorem dX3_forget_3 : decode cX3_forget 3 = .ok (.sipush 128, 3) := by decide +kernel
theorem dX3_forget_6 : decode cX3_forget 6 = .ok (.if_icmp .ge 24, 3) := by decide +kernel
theorem dX3_forget_9 : decode cX3_forget 9 = .ok (.iload_n 2, 1) := by decide +kernel
theorem dX3_forget_10 : decode cX3_forget 10 = .ok (.iload_n 1, 1) := by decide +kernel
theorem dX3_forget_11 : decode cX3_forget 11 = .ok (.invokestatic 39, 3) := by decide +kernel
theorem dX3_forget_14 : decode cX3_forget 14 = .ok (.ifCond .eq 10, 3) := by decide +kernel
theorem dX3_forget_17 : decode cX3_forget 17 = .ok (.aload_n 0, 1) := by decide +kernel
theorem dX3_forget_18 : decode cX3_forget 18 = .ok (.getfield 9, 3) := by decide +kernel
theorem dX3_forget_21 : decode cX3_forget 21 = .ok (.iload_n 2, 1) := by decide +kernel
theorem dX3_forget_22 : decode cX3_forget 22 = .ok (.iconst (-1), 1) := by decide +kernel
theorem dX3_forget_23 : decode cX3_forget 23 = .ok (.iastore, 1) := by decide +kernel
theorem dX3_forget_24 : decode cX3_forget 24 = .ok (.iinc 2 1, 3) := by decide +kernel
theorem dX3_forget_27 : decode cX3_forget 27 = .ok (.goto (-25), 3) := by decide +kernel
theorem dX3_forget_30 : decode cX3_forget 30 = .ok (.return_, 1) := by decide +kernel
theorem dX3_forgetAll_0 : decode cX3_forgetAll 0 = .ok (.aload_n 0, 1) := by decide +kernel
theorem dX3_forgetAll_1 : decode cX3_forgetAll 1 = .ok (.getfield 9, 3) := by decide +kernel
theorem dX3_forgetAll_4 : decode cX3_forgetAll 4 = .ok (.iconst (-1), 1) := by decide +kernel
theorem dX3_forgetAll_5 : decode cX3_forgetAll 5 = .ok (.invokestatic 33, 3) := by decide +kernel
theorem dX3_forgetAll_8 : decode cX3_forgetAll 8 = .ok (.return_, 1) := by decide +kernel
theorem dX6_forget_0 : decode cX6_forget 0 = .ok (.aload_n 0, 1) := by decide +kernel
theorem dX6_forget_1 : decode cX6_forget 1 = .ok (.iconst 0, 1) := by decide +kernel
theorem dX6_forget_2 : decode cX6_forget 2 = .ok (.putfield 49, 3) := by decide +kernel
theorem dX6_forget_5 : decode cX6_forget 5 = .ok (.return_, 1) := by decide +kernel
theorem dX4_forget_0 : decode cX4_forget 0 = .ok (.aload_n 0, 1) := by decide +kernel
theorem dX4_forget_1 : decode cX4_forget 1 = .ok (.iconst 0, 1) := by decide +kernel
theorem dX4_forget_2 : decode cX4_forget 2 = .ok (.putfield 28, 3) := by decide +kernel
theorem dX4_forget_5 : decode cX4_forget 5 = .ok (.return_, 1) := by decide +kernel
theorem dX11_forgetHouse_0 : decode cX11_forgetHouse 0 = .ok (.aload_n 0, 1) := by decide +kernel
theorem dX11_forgetHouse_1 : decode cX11_forgetHouse 1 = .ok (.getfield 45, 3) := by decide +kernel
theorem dX11_forgetHouse_4 : decode cX11_forgetHouse 4 = .ok (.iload_n 1, 1) := by decide +kernel
theorem dX11_forgetHouse_5 : decode cX11_forgetHouse 5 = .ok (.invokevirtual 395, 3) := by decide +kernel
theorem dX11_forgetHouse_8 : decode cX11_forgetHouse 8 = .ok (.aload_n 0, 1) := by decide +kernel
theorem dX11_forgetHouse_9 : decode cX11_forgetHouse 9 = .ok (.getfield 79, 3) := by decide +kernel
theorem dX11_forgetHouse_12 : decode cX11_forgetHouse 12 = .ok (.invokevirtual 125, 3) := by decide +kernel
theorem dX11_forgetHouse_15 : decode cX11_forgetHouse 15 = .ok (.return_, 1) := by decide +kernel
theorem dX11_forgetAll_0 : decode cX11_forgetAll 0 = .ok (.aload_n 0, 1) := by decide +kernel
theorem dX11_forgetAll_1 : decode cX11_forgetAll 1 = .ok (.getfield 36, 3) := by decide +kernel
theorem dX11_forgetAll_4 : decode cX11_forgetAll 4 = .ok (.invokevirtual 397, 3) := by decide +kernel
theorem dX11_forgetAll_7 : decode cX11_forgetAll 7 = .ok (.aload_n 0, 1) := by decide +kernel
theorem dX11_forgetAll_8 : decode cX11_forgetAll 8 = .ok (.getfield 45, 3) := by decide +kernel
theorem dX11_forgetAll_11 : decode cX11_forgetAll 11 = .ok (.invokevirtual 398, 3) := by decide +kernel
theorem dX11_forgetAll_14 : decode cX11_forgetAll 14 = .ok (.aload_n 0, 1) := by decide +kernel
theorem dX11_forgetAll_15 : decode cX11_forgetAll 15 = .ok (.getfield 79, 3) := by decide +kernel
theorem dX11_forgetAll_18 : decode cX11_forgetAll 18 = .ok (.invokevirtual 125, 3) := by decide +kernel
theorem dX11_forgetAll_21 : decode cX11_forgetAll 21 = .ok (.return_, 1) := by decide +kernel
theorem dX11_needHouse_0 : decode cX11_needHouse 0 = .ok (.aload_n 0, 1) := by decide +kernel
theorem dX11_needHouse_1 : decode cX11_needHouse 1 = .ok (.getfield 10, 3) := by decide +kernel
theorem dX11_needHouse_4 : decode cX11_needHouse 4 = .ok (.iload_n 1, 1) := by decide +kernel
theorem dX11_needHouse_5 : decode cX11_needHouse 5 = .ok (.invokevirtual 380, 3) := by decide +kernel
theorem dX11_needHouse_8 : decode cX11_needHouse 8 = .ok (.ifCond .ne 11, 3) := by decide +kernel
theorem dX11_needHouse_11 : decode cX11_needHouse 11 = .ok (.new 383, 3) := by decide +kernel
theorem dX11_needHouse_14 : decode cX11_needHouse 14 = .ok (.dup, 1) := by decide +kernel
theorem dX11_needHouse_15 : decode cX11_needHouse 15 = .ok (.invokespecial 385, 3) := by decide +kernel
theorem dX11_needHouse_18 : decode cX11_needHouse 18 = .ok (.athrow, 1) := by decide +kernel
theorem dX11_needHouse_19 : decode cX11_needHouse 19 = .ok (.return_, 1) := by decide +kernel
theorem dX11_needTwo_0 : decode cX11_needTwo 0 = .ok (.aload_n 0, 1) := by decide +kernel
theorem dX11_needTwo_1 : decode cX11_needTwo 1 = .ok (.iload_n 1, 1) := by decide +kernel
theorem dX11_needTwo_2 : decode cX11_needTwo 2 = .ok (.invokevirtual 101, 3) := by decide +kernel
theorem dX11_needTwo_5 : decode cX11_needTwo 5 = .ok (.aload_n 0, 1) := by decide +kernel
theorem dX11_needTwo_6 : decode cX11_needTwo 6 = .ok (.iload_n 2, 1) := by decide +kernel
theorem dX11_needTwo_7 : decode cX11_needTwo 7 = .ok (.invokevirtual 101, 3) := by decide +kernel
theorem dX11_needTwo_10 : decode cX11_needTwo 10 = .ok (.iload_n 1, 1) := by decide +kernel
theorem dX11_needTwo_11 : decode cX11_needTwo 11 = .ok (.iload_n 2, 1) := by decide +kernel
theorem dX11_needTwo_12 : decode cX11_needTwo 12 = .ok (.if_icmp .ne 11, 3) := by decide +kernel
theorem dX11_needTwo_15 : decode cX11_needTwo 15 = .ok (.new 148, 3) := by decide +kernel
theorem dX11_needTwo_18 : decode cX11_needTwo 18 = .ok (.dup, 1) := by decide +kernel
theorem dX11_needTwo_19 : decode cX11_needTwo 19 = .ok (.invokespecial 150, 3) := by decide +kernel
theorem dX11_needTwo_22 : decode cX11_needTwo 22 = .ok (.athrow, 1) := by decide +kernel
theorem dX11_needTwo_23 : decode cX11_needTwo 23 = .ok (.return_, 1) := by decide +kernel
theorem dX11_needMonth_0 : decode cX11_needMonth 0 = .ok (.iload_n 1, 1) := by decide +kernel
theorem dX11_needMonth_1 : decode cX11_needMonth 1 = .ok (.ifCond .lt 8, 3) := by decide +kernel
theorem dX11_needMonth_4 : decode cX11_needMonth 4 = .ok (.iload_n 1, 1) := by decide +kernel
theorem dX11_needMonth_5 : decode cX11_needMonth 5 = .ok (.iload_n 2, 1) := by decide +kernel
theorem dX11_needMonth_6 : decode cX11_needMonth 6 = .ok (.if_icmp .lt 11, 3) := by decide +kernel
theorem dX11_needMonth_9 : decode cX11_needMonth 9 = .ok (.new 383, 3) := by decide +kernel
theorem dX11_needMonth_12 : decode cX11_needMonth 12 = .ok (.dup, 1) := by decide +kernel
theorem dX11_needMonth_13 : decode cX11_needMonth 13 = .ok (.invokespecial 385, 3) := by decide +kernel
theorem dX11_needMonth_16 : decode cX11_needMonth 16 = .ok (.athrow, 1) := by decide +kernel
theorem dX11_needMonth_17 : decode cX11_needMonth 17 = .ok (.return_, 1) := by decide +kernel
theorem dX11_needWithin_0 : decode cX11_needWithin 0 = .ok (.iload_n 1, 1) := by decide +kernel
theorem dX11_needWithin_1 : decode cX11_needWithin 1 = .ok (.iload_n 2, 1) := by decide +kernel
theorem dX11_needWithin_2 : decode cX11_needWithin 2 = .ok (.if_icmp .lt 8, 3) := by decide +kernel
theorem dX11_needWithin_5 : decode cX11_needWithin 5 = .ok (.iload_n 1, 1) := by decide +kernel
theorem dX11_needWithin_6 : decode cX11_needWithin 6 = .ok (.iload_n 3, 1) := by decide +kernel
theorem dX11_needWithin_7 : decode cX11_needWithin 7 = .ok (.if_icmp .le 11, 3) := by decide +kernel
theorem dX11_needWithin_10 : decode cX11_needWithin 10 = .ok (.new 148, 3) := by decide +kernel
theorem dX11_needWithin_13 : decode cX11_needWithin 13 = .ok (.dup, 1) := by decide +kernel
theorem dX11_needWithin_14 : decode cX11_needWithin 14 = .ok (.invokespecial 150, 3) := by decide +kernel
theorem dX11_needWithin_17 : decode cX11_needWithin 17 = .ok (.athrow, 1) := by decide +kernel
theorem dX11_needWithin_18 : decode cX11_needWithin 18 = .ok (.return_, 1) := by decide +kernel
theorem dX11_needSacks_0 : decode cX11_needSacks 0 = .ok (.aload_n 0, 1) := by decide +kernel
theorem dX11_needSacks_1 : decode cX11_needSacks 1 = .ok (.iload_n 1, 1) := by decide +kernel
theorem dX11_needSacks_2 : decode cX11_needSacks 2 = .ok (.iconst 0, 1) := by decide +kernel
theorem dX11_needSacks_3 : decode cX11_needSacks 3 = .ok (.bipush 8, 2) := by decide +kernel
theorem dX11_needSacks_5 : decode cX11_needSacks 5 = .ok (.invokevirtual 175, 3) := by decide +kernel
theorem dX11_needSacks_8 : decode cX11_needSacks 8 = .ok (.return_, 1) := by decide +kernel
theorem dX11_needSet_0 : decode cX11_needSet 0 = .ok (.aload_n 0, 1) := by decide +kernel
theorem dX11_needSet_1 : decode cX11_needSet 1 = .ok (.iload_n 1, 1) := by decide +kernel
theorem dX11_needSet_2 : decode cX11_needSet 2 = .ok (.iconst 1, 1) := by decide +kernel
theorem dX11_needSet_3 : decode cX11_needSet 3 = .ok (.iconst 1, 1) := by decide +kernel
theorem dX11_needSet_4 : decode cX11_needSet 4 = .ok (.aload_n 0, 1) := by decide +kernel
theorem dX11_needSet_5 : decode cX11_needSet 5 = .ok (.getfield 10, 3) := by decide +kernel
theorem dX11_needSet_8 : decode cX11_needSet 8 = .ok (.getfield 355, 3) := by decide +kernel
theorem dX11_needSet_11 : decode cX11_needSet 11 = .ok (.ishl, 1) := by decide +kernel
theorem dX11_needSet_12 : decode cX11_needSet 12 = .ok (.iconst 1, 1) := by decide +kernel
theorem dX11_needSet_13 : decode cX11_needSet 13 = .ok (.isub, 1) := by decide +kernel
theorem dX11_needSet_14 : decode cX11_needSet 14 = .ok (.invokevirtual 175, 3) := by decide +kernel
theorem dX11_needSet_17 : decode cX11_needSet 17 = .ok (.return_, 1) := by decide +kernel
theorem dX11_needTray_0 : decode cX11_needTray 0 = .ok (.iload_n 1, 1) := by decide +kernel
theorem dX11_needTray_1 : decode cX11_needTray 1 = .ok (.ifCond .lt 8, 3) := by decide +kernel
theorem dX11_needTray_4 : decode cX11_needTray 4 = .ok (.iload_n 1, 1) := by decide +kernel
theorem dX11_needTray_5 : decode cX11_needTray 5 = .ok (.iconst 4, 1) := by decide +kernel
theorem dX11_needTray_6 : decode cX11_needTray 6 = .ok (.if_icmp .lt 11, 3) := by decide +kernel
theorem dX11_needTray_9 : decode cX11_needTray 9 = .ok (.new 383, 3) := by decide +kernel
theorem dX11_needTray_12 : decode cX11_needTray 12 = .ok (.dup, 1) := by decide +kernel
theorem dX11_needTray_13 : decode cX11_needTray 13 = .ok (.invokespecial 385, 3) := by decide +kernel
theorem dX11_needTray_16 : decode cX11_needTray 16 = .ok (.athrow, 1) := by decide +kernel
theorem dX11_needTray_17 : decode cX11_needTray 17 = .ok (.return_, 1) := by decide +kernel
theorem dX11_needLaid_0 : decode cX11_needLaid 0 = .ok (.aload_n 0, 1) := by decide +kernel
theorem dX11_needLaid_1 : decode cX11_needLaid 1 = .ok (.getfield 86, 3) := by decide +kernel
theorem dX11_needLaid_4 : decode cX11_needLaid 4 = .ok (.getfield 332, 3) := by decide +kernel
theorem dX11_needLaid_7 : decode cX11_needLaid 7 = .ok (.iload_n 1, 1) := by decide +kernel
theorem dX11_needLaid_8 : decode cX11_needLaid 8 = .ok (.iaload, 1) := by decide +kernel
theorem dX11_needLaid_9 : decode cX11_needLaid 9 = .ok (.iconst (-1), 1) := by decide +kernel
theorem dX11_needLaid_10 : decode cX11_needLaid 10 = .ok (.if_icmp .ne 11, 3) := by decide +kernel
theorem dX11_needLaid_13 : decode cX11_needLaid 13 = .ok (.new 352, 3) := by decide +kernel
theorem dX11_needLaid_16 : decode cX11_needLaid 16 = .ok (.dup, 1) := by decide +kernel
theorem dX11_needLaid_17 : decode cX11_needLaid 17 = .ok (.invokespecial 354, 3) := by decide +kernel
theorem dX11_needLaid_20 : decode cX11_needLaid 20 = .ok (.athrow, 1) := by decide +kernel
theorem dX11_needLaid_21 : decode cX11_needLaid 21 = .ok (.return_, 1) := by decide +kernel
theorem dX11_needImage_0 : decode cX11_needImage 0 = .ok (.iload_n 1, 1) := by decide +kernel
theorem dX11_needImage_1 : decode cX11_needImage 1 = .ok (.ifCond .lt 12, 3) := by decide +kernel
theorem dX11_needImage_4 : decode cX11_needImage 4 = .ok (.iload_n 1, 1) := by decide +kernel
theorem dX11_needImage_5 : decode cX11_needImage 5 = .ok (.aload_n 0, 1) := by decide +kernel
theorem dX11_needImage_6 : decode cX11_needImage 6 = .ok (.getfield 16, 3) := by decide +kernel
theorem dX11_needImage_9 : decode cX11_needImage 9 = .ok (.arraylength, 1) := by decide +kernel
theorem dX11_needImage_10 : decode cX11_needImage 10 = .ok (.if_icmp .lt 11, 3) := by decide +kernel
theorem dX11_needImage_13 : decode cX11_needImage 13 = .ok (.new 383, 3) := by decide +kernel
theorem dX11_needImage_16 : decode cX11_needImage 16 = .ok (.dup, 1) := by decide +kernel
theorem dX11_needImage_17 : decode cX11_needImage 17 = .ok (.invokespecial 385, 3) := by decide +kernel
theorem dX11_needImage_20 : decode cX11_needImage 20 = .ok (.athrow, 1) := by decide +kernel
theorem dX11_needImage_21 : decode cX11_needImage 21 = .ok (.return_, 1) := by decide +kernel
theorem dX11_needMember_0 : decode cX11_needMember 0 = .ok (.iload_n 1, 1) := by decide +kernel
theorem dX11_needMember_1 : decode cX11_needMember 1 = .ok (.iload_n 2, 1) := by decide +kernel
theorem dX11_needMember_2 : decode cX11_needMember 2 = .ok (.invokestatic 121, 3) := by decide +kernel
theorem dX11_needMember_5 : decode cX11_needMember 5 = .ok (.ifCond .ne 11, 3) := by decide +kernel
theorem dX11_needMember_8 : decode cX11_needMember 8 = .ok (.new 148, 3) := by decide +kernel
theorem dX11_needMember_11 : decode cX11_needMember 11 = .ok (.dup, 1) := by decide +kernel
theorem dX11_needMember_12 : decode cX11_needMember 12 = .ok (.invokespecial 150, 3) := by decide +kernel
theorem dX11_needMember_15 : decode cX11_needMember 15 = .ok (.athrow, 1) := by decide +kernel
theorem dX11_needMember_16 : decode cX11_needMember 16 = .ok (.return_, 1) := by decide +kernel
theorem dJ7_fill_53178_0 : decode cJ7_fill_53178 0 = .ok (.iconst 0, 1) := by decide +kernel
theorem dJ7_fill_53178_1 : decode cJ7_fill_53178 1 = .ok (.istore_n 2, 1) := by decide +kernel
theorem dJ7_fill_53178_2 : decode cJ7_fill_53178 2 = .ok (.aload_n 0, 1) := by decide +kernel
theorem dJ7_fill_53178_3 : decode cJ7_fill_53178 3 = .ok (.arraylength, 1) := by decide +kernel
theorem dJ7_fill_53178_4 : decode cJ7_fill_53178 4 = .ok (.istore_n 3, 1) := by decide +kernel
theorem dJ7_fill_53178_5 : decode cJ7_fill_53178 5 = .ok (.iload_n 2, 1) := by decide +kernel
theorem dJ7_fill_53178_6 : decode cJ7_fill_53178 6 = .ok (.iload_n 3, 1) := by decide +kernel
theorem dJ7_fill_53178_7 : decode cJ7_fill_53178 7 = .ok (.if_icmp .ge 13, 3) := by decide +kernel
theorem dJ7_fill_53178_10 : decode cJ7_fill_53178 10 = .ok (.aload_n 0, 1) := by decide +kernel
theorem dJ7_fill_53178_11 : decode cJ7_fill_53178 11 = .ok (.iload_n 2, 1) := by decide +kernel
theorem dJ7_fill_53178_12 : decode cJ7_fill_53178 12 = .ok (.iload_n 1, 1) := by decide +kernel
theorem dJ7_fill_53178_13 : decode cJ7_fill_53178 13 = .ok (.iastore, 1) := by decide +kernel
theorem dJ7_fill_53178_14 : decode cJ7_fill_53178 14 = .ok (.iinc 2 1, 3) := by decide +kernel
theorem dJ7_fill_53178_17 : decode cJ7_fill_53178 17 = .ok (.goto (-12), 3) := by decide +kernel
theorem dJ7_fill_53178_20 : decode cJ7_fill_53178 20 = .ok (.return_, 1) := by decide +kernel
theorem dJ7_fill_d0a16_0 : decode cJ7_fill_d0a16 0 = .ok (.iconst 0, 1) := by decide +kernel
theorem dJ7_fill_d0a16_1 : decode cJ7_fill_d0a16 1 = .ok (.istore_n 3, 1) := by decide +kernel
theorem dJ7_fill_d0a16_2 : decode cJ7_fill_d0a16 2 = .ok (.aload_n 0, 1) := by decide +kernel
theorem dJ7_fill_d0a16_3 : decode cJ7_fill_d0a16 3 = .ok (.arraylength, 1) := by decide +kernel
theorem dJ7_fill_d0a16_4 : decode cJ7_fill_d0a16 4 = .ok (.istore 4, 2) := by decide +kernel
theorem dJ7_fill_d0a16_6 : decode cJ7_fill_d0a16 6 = .ok (.iload_n 3, 1) := by decide +kernel
theorem dJ7_fill_d0a16_7 : decode cJ7_fill_d0a16 7 = .ok (.iload 4, 2) := by decide +kernel
theorem dJ7_fill_d0a16_9 : decode cJ7_fill_d0a16 9 = .ok (.if_icmp .ge 13, 3) := by decide +kernel
theorem dJ7_fill_d0a16_12 : decode cJ7_fill_d0a16 12 = .ok (.aload_n 0, 1) := by decide +kernel
theorem dJ7_fill_d0a16_13 : decode cJ7_fill_d0a16 13 = .ok (.iload_n 3, 1) := by decide +kernel
theorem dJ7_fill_d0a16_14 : decode cJ7_fill_d0a16 14 = .ok (.lload_n 1, 1) := by decide +kernel
theorem dJ7_fill_d0a16_15 : decode cJ7_fill_d0a16 15 = .ok (.lastore, 1) := by decide +kernel
theorem dJ7_fill_d0a16_16 : decode cJ7_fill_d0a16 16 = .ok (.iinc 3 1, 3) := by decide +kernel
theorem dJ7_fill_d0a16_19 : decode cJ7_fill_d0a16 19 = .ok (.goto (-13), 3) := by decide +kernel
theorem dJ7_fill_d0a16_22 : decode cJ7_fill_d0a16 22 = .ok (.return_, 1) := by decide +kernel
/-- ends if c, else throws x; nothing has changed -/
def aN (c : Prop) (x : Nat) (N : Nat) (S : aS) (M : aM) : aQ := fun o N' S' M' => N' = N ∧ S' = S ∧ M' = M ∧ ((c ∧ o = .inl none) ∨ (¬ c ∧ o = .inr x))
section AX11
variable {l : Launch} {E : aE} {P : aP} {Q : aQ} {kc ks N : Nat} {S : aS} {M : aM} {pc : Nat} {lo : List (Nat × aV)} {st : List aV}
theorem k_N {P' : aP} {c : Prop} {x : Nat} (k : c → aX l E P Q (kc + P'.2.2.2.2.1.cells) (ks + P'.2.2.2.2.1.slots) N S M (pc + 3) lo st) : ∀ (r : Option aV) (N' : Nat) (S' : aS) (M' : aM), aN c x N S M (.inl r) N' S' M' → a_ex N N' S S' → aX l E P Q (kc + P'.2.2.2.2.1.cells) (ks + P'.2.2.2.2.1.slots) N' S' M' (pc + 3) lo (r.toList ++ st) := by
  intro r N' S' M' h _
  obtain ⟨rfl, rfl, rfl, h⟩ := h
  rcases h with ⟨hc, e⟩ | ⟨hc, e⟩
  · cases e; exact k hc
  · cases e
theorem n_N {c : Prop} {x : Nat} (k : ¬ c → Q (.inr x) N S M) : ∀ (x9 N' : Nat) (S' : aS) (M' : aM), aN c x N S M (.inr x9) N' S' M' → a_ex N N' S S' → Q (.inr x9) N' S' M' := by
  intro x9 N' S' M' h _
  obtain ⟨rfl, rfl, rfl, h⟩ := h
  rcases h with ⟨hc, e⟩ | ⟨hc, e⟩
  · cases e
  · cases e; exact k hc
end AX11
theorem isOfV01 (set h : Int) : isOfV set h = 0 ∨ isOfV set h = 1 := by
  unfold isOfV
  split
  · exact Or.inr rfl
  · exact Or.inl rfl
theorem s_X6forget {l : Launch} {E : aE} {N : Nat} {S : aS} {M : aM} (hfl : l.stackTraces = false) (b n : Int) (r : Int → Int) (h : S b = (6, 12, r)) : aMt l E pX6_forget [(2, b)] N S M (aU N S (fun M' => M' = up M b 5 0)) := by
  refine a_met hfl rfl (by decide +kernel) (Nat.le_of_ble_eq_true rfl) ?_
  refine x_aload_n (pc := 0) dX6_forget_0 rfl rfl ?_
  refine x_iconst (pc := 1) dX6_forget_1 (by decide) ?_
  refine x_putI (jj := 5) (pc := 2) dX6_forget_2 fX6_49 h rfl (by decide) rfl ?_
  refine x_return (pc := 5) dX6_forget_5 rfl (by decide) ?_
  exact ⟨rfl, rfl, rfl, rfl⟩
theorem s_X4forget {l : Launch} {E : aE} {N : Nat} {S : aS} {M : aM} (hfl : l.stackTraces = false) (b n : Int) (r : Int → Int) (h : S b = (4, 6, r)) : aMt l E pX4_forget [(2, b)] N S M (aU N S (fun M' => M' = up M b 5 0)) := by
  refine a_met hfl rfl (by decide +kernel) (Nat.le_of_ble_eq_true rfl) ?_
  refine x_aload_n (pc := 0) dX4_forget_0 rfl rfl ?_
  refine x_iconst (pc := 1) dX4_forget_1 (by decide) ?_
  refine x_putI (jj := 5) (pc := 2) dX4_forget_2 fX4_28 h rfl (by decide) rfl ?_
  refine x_return (pc := 5) dX4_forget_5 rfl (by decide) ?_
  exact ⟨rfl, rfl, rfl, rfl⟩
/-- the worths of all sets with h forgotten, up to n -/
def fgM (M : aM) (w h n : Int) : aM := fun a j => if a = w ∧ 0 ≤ j ∧ j < n ∧ isOfV j h = 1 then -1 else M a j
theorem fgM_a {M : aM} {w h n a j : Int} (q : a ≠ w) : fgM M w h n a j = M a j := if_neg fun z => q z.1
theorem s_X3forget {l : Launch} {E : aE} {N : Nat} {S : aS} {M : aM} (hfl : l.stackTraces = false) (b w h : Int) (r : Int → Int) (h0 : S b = (3, 6, r)) (h1 : r 3 = w) (h2 : S w = (13, 128, rN)) : aMt l E pX3_forget [(2, b), (0, h)] N S M (aU N S (fun M' => M' = fgM M w h 128)) := by
  refine a_met hfl rfl (by decide +kernel) (Nat.le_of_ble_eq_true rfl) ?_
  have loop := a_loop2 (fun i M1 => 0 ≤ i ∧ i ≤ 128 ∧ M1 = fgM M w h i) (fun i _ => (128 - i).toNat) (fun i M1 => aX l E pX3_forget (aU N S (fun M' => M' = fgM M w h 128)) 0 0 N S M1 2 [(0, (2, b)), (1, (0, h)), (2, (0, i))] []) (by
    intro i M1 hI ih
    refine x_iload_n (pc := 2) dX3_forget_2 rfl rfl ?_
    refine x_sipush (pc := 3) dX3_forget_3 (by decide) ?_
    refine x_icmp_ge (tgt := 30) (pc := 6) dX3_forget_6 (by decide) (fun c_6 => ?_) (fun c_6 => ?_)
    · refine x_return (pc := 30) dX3_forget_30 rfl (by decide) ?_
      refine ⟨rfl, rfl, rfl, ?_⟩
      rw [hI.2.2, show i = 128 by omega]
    · refine x_iload_n (pc := 9) dX3_forget_9 rfl rfl ?_
      refine x_iload_n (pc := 10) dX3_forget_10 rfl rfl ?_
      refine x_callSN2 (pc := 11) dX3_forget_11 rfl kX3_39 (s_isOf hfl i h) rfl (Nat.le_of_ble_eq_true rfl) (k_R ?_) n_R
      refine x_if_eq (tgt := 24) (pc := 14) dX3_forget_14 (by decide) (fun c_14 => ?_) (fun c_14 => ?_)
      · refine x_iinc (pc := 24) dX3_forget_24 rfl (by omega) (by decide) rfl ?_
        refine x_goto (tgt := 2) (pc := 27) dX3_forget_27 (by decide) ?_
        refine x_lo (lo' := [(0, (2, b)), (1, (0, h)), (2, (0, i + 1))]) ⟨rfl, rfl, rfl, trivial⟩ (ih (i + 1) _ ⟨by omega, by omega, ?_⟩ (by omega))
        rw [hI.2.2]
        funext a j
        unfold fgM
        by_cases e : a = w ∧ j = i
        · rw [e.1, e.2, if_neg (by omega), if_neg (by omega)]
        · by_cases e2 : a = w ∧ 0 ≤ j ∧ j < i ∧ isOfV j h = 1
          · rw [if_pos e2, if_pos (by omega)]
          · rw [if_neg e2, if_neg (by omega)]
      · refine x_aload_n (pc := 17) dX3_forget_17 rfl rfl ?_
        refine x_getR (jj := 3) (pc := 18) dX3_forget_18 fX3_9 h0 rfl (by decide) rfl h1 ?_
        refine x_iload_n (pc := 21) dX3_forget_21 rfl rfl ?_
        refine x_iconst (pc := 22) dX3_forget_22 (by decide) ?_
        refine x_iastore (pc := 23) dX3_forget_23 h2 (by omega) ?_
        refine x_iinc (pc := 24) dX3_forget_24 rfl (by omega) (by decide) rfl ?_
        refine x_goto (tgt := 2) (pc := 27) dX3_forget_27 (by decide) ?_
        refine x_lo (lo' := [(0, (2, b)), (1, (0, h)), (2, (0, i + 1))]) ⟨rfl, rfl, rfl, trivial⟩ (ih (i + 1) _ ⟨by omega, by omega, ?_⟩ (by omega))
        rw [hI.2.2]
        funext a j
        unfold fgM up
        by_cases e : a = w ∧ j = i
        · rw [if_pos e, if_pos ⟨e.1, by omega, by omega, by rw [e.2]; unfold isOfV at *; split at c_14 <;> simp_all⟩]
        · rw [if_neg e]
          dsimp only
          by_cases e2 : a = w ∧ 0 ≤ j ∧ j < i ∧ isOfV j h = 1
          · rw [if_pos e2, if_pos (by omega)]
          · rw [if_neg e2, if_neg (by omega)])
  refine x_iconst (pc := 0) dX3_forget_0 (by decide) ?_
  refine x_istore_n (pc := 1) dX3_forget_1 rfl (by decide) rfl ?_
  refine x_lo (lo' := [(0, (2, b)), (1, (0, h)), (2, (0, 0))]) ⟨rfl, rfl, rfl, trivial⟩ (loop 0 _ ⟨by omega, by omega, ?_⟩)
  funext a j
  unfold fgM
  rw [if_neg (by omega)]
theorem s_forgetHouse {l : Launch} {E : aE} {N : Nat} {S : aS} {M : aM} (hfl : l.stackTraces = false) (h : Int) (hC : lyC S) : aMt l E pX11_forgetHouse [(2, 0), (0, h)] N S M (aU N S (fun M' => M' = up (fgM M 31 h 128) 82 5 0)) := by
  refine a_met hfl rfl (by decide +kernel) (Nat.le_of_ble_eq_true rfl) ?_
  refine x_aload_n (pc := 0) dX11_forgetHouse_0 rfl rfl ?_
  refine x_getR (jj := 4) (pc := 1) dX11_forgetHouse_1 fX11_45 (sC_0 hC) rfl (by decide) rfl rC_0_4 ?_
  refine x_iload_n (pc := 4) dX11_forgetHouse_4 rfl rfl ?_
  refine x_callV1 (pc := 5) dX11_forgetHouse_5 rfl kX11_395 (s_X3forget hfl 30 31 _ rC_30 (sC_30 hC) rC_30_3 (sC_31 hC)) (sC_30 hC) rfl rfl (Nat.le_of_ble_eq_true rfl) (k_U (fun M9 hM9 => ?_)) n_U
  subst hM9
  refine x_aload_n (pc := 8) dX11_forgetHouse_8 rfl rfl ?_
  refine x_getR (jj := 8) (pc := 9) dX11_forgetHouse_9 fX11_79 (sC_0 hC) rfl (by decide) rfl rC_0_8 ?_
  refine x_callV0 (pc := 12) dX11_forgetHouse_12 rfl kX11_125 (s_X6forget hfl 82 0 rC_82 (sC_82 hC)) (sC_82 hC) rfl rfl (Nat.le_of_ble_eq_true rfl) (k_U (fun M9 hM9 => ?_)) n_U
  subst hM9
  refine x_return (pc := 15) dX11_forgetHouse_15 rfl (by decide) ?_
  exact ⟨rfl, rfl, rfl, rfl⟩
theorem s_needWithin {l : Launch} {E : aE} {N : Nat} {S : aS} {M : aM} (hfl : l.stackTraces = false) (v lo9 hi : Int) : aMt l E pX11_needWithin [(2, 0), (0, v), (0, lo9), (0, hi)] N S M (aN (lo9 ≤ v ∧ v ≤ hi) 0 N S M) := by
  refine a_met hfl rfl (by decide +kernel) (Nat.le_of_ble_eq_true rfl) ?_
  refine x_iload_n (pc := 0) dX11_needWithin_0 rfl rfl ?_
  refine x_iload_n (pc := 1) dX11_needWithin_1 rfl rfl ?_
  refine x_icmp_lt (tgt := 10) (pc := 2) dX11_needWithin_2 (by decide) (fun c_2 => ?_) (fun c_2 => ?_)
  · refine x_throw (pc := 10) thX11_148_150 rfl trivial dX11_needWithin_10 dX11_needWithin_13 dX11_needWithin_14 dX11_needWithin_17 (by decide) ?_
    first | exact ⟨rfl, rfl, rfl, Or.inl ⟨by omega, rfl⟩⟩ | exact ⟨rfl, rfl, rfl, Or.inr ⟨by omega, rfl⟩⟩
  · refine x_iload_n (pc := 5) dX11_needWithin_5 rfl rfl ?_
    refine x_iload_n (pc := 6) dX11_needWithin_6 rfl rfl ?_
    refine x_icmp_le (tgt := 18) (pc := 7) dX11_needWithin_7 (by decide) (fun c_7 => ?_) (fun c_7 => ?_)
    · refine x_return (pc := 18) dX11_needWithin_18 rfl (by decide) ?_
      first | exact ⟨rfl, rfl, rfl, Or.inl ⟨by omega, rfl⟩⟩ | exact ⟨rfl, rfl, rfl, Or.inr ⟨by omega, rfl⟩⟩
    · refine x_throw (pc := 10) thX11_148_150 rfl trivial dX11_needWithin_10 dX11_needWithin_13 dX11_needWithin_14 dX11_needWithin_17 (by decide) ?_
      first | exact ⟨rfl, rfl, rfl, Or.inl ⟨by omega, rfl⟩⟩ | exact ⟨rfl, rfl, rfl, Or.inr ⟨by omega, rfl⟩⟩
theorem s_needMonth {l : Launch} {E : aE} {N : Nat} {S : aS} {M : aM} (hfl : l.stackTraces = false) (v n : Int) : aMt l E pX11_needMonth [(2, 0), (0, v), (0, n)] N S M (aN (0 ≤ v ∧ v < n) 2 N S M) := by
  refine a_met hfl rfl (by decide +kernel) (Nat.le_of_ble_eq_true rfl) ?_
  refine x_iload_n (pc := 0) dX11_needMonth_0 rfl rfl ?_
  refine x_if_lt (tgt := 9) (pc := 1) dX11_needMonth_1 (by decide) (fun c_1 => ?_) (fun c_1 => ?_)
  · refine x_throw (pc := 9) thX11_383_385 rfl trivial dX11_needMonth_9 dX11_needMonth_12 dX11_needMonth_13 dX11_needMonth_16 (by decide) ?_
    first | exact ⟨rfl, rfl, rfl, Or.inl ⟨by omega, rfl⟩⟩ | exact ⟨rfl, rfl, rfl, Or.inr ⟨by omega, rfl⟩⟩
  · refine x_iload_n (pc := 4) dX11_needMonth_4 rfl rfl ?_
    refine x_iload_n (pc := 5) dX11_needMonth_5 rfl rfl ?_
    refine x_icmp_lt (tgt := 17) (pc := 6) dX11_needMonth_6 (by decide) (fun c_6 => ?_) (fun c_6 => ?_)
    · refine x_return (pc := 17) dX11_needMonth_17 rfl (by decide) ?_
      first | exact ⟨rfl, rfl, rfl, Or.inl ⟨by omega, rfl⟩⟩ | exact ⟨rfl, rfl, rfl, Or.inr ⟨by omega, rfl⟩⟩
    · refine x_throw (pc := 9) thX11_383_385 rfl trivial dX11_needMonth_9 dX11_needMonth_12 dX11_needMonth_13 dX11_needMonth_16 (by decide) ?_
      first | exact ⟨rfl, rfl, rfl, Or.inl ⟨by omega, rfl⟩⟩ | exact ⟨rfl, rfl, rfl, Or.inr ⟨by omega, rfl⟩⟩
theorem s_needTray {l : Launch} {E : aE} {N : Nat} {S : aS} {M : aM} (hfl : l.stackTraces = false) (v : Int) : aMt l E pX11_needTray [(2, 0), (0, v)] N S M (aN (0 ≤ v ∧ v ≤ 3) 2 N S M) := by
  refine a_met hfl rfl (by decide +kernel) (Nat.le_of_ble_eq_true rfl) ?_
  refine x_iload_n (pc := 0) dX11_needTray_0 rfl rfl ?_
  refine x_if_lt (tgt := 9) (pc := 1) dX11_needTray_1 (by decide) (fun c_1 => ?_) (fun c_1 => ?_)
  · refine x_throw (pc := 9) thX11_383_385 rfl trivial dX11_needTray_9 dX11_needTray_12 dX11_needTray_13 dX11_needTray_16 (by decide) ?_
    first | exact ⟨rfl, rfl, rfl, Or.inl ⟨by omega, rfl⟩⟩ | exact ⟨rfl, rfl, rfl, Or.inr ⟨by omega, rfl⟩⟩
  · refine x_iload_n (pc := 4) dX11_needTray_4 rfl rfl ?_
    refine x_iconst (pc := 5) dX11_needTray_5 (by decide) ?_
    refine x_icmp_lt (tgt := 17) (pc := 6) dX11_needTray_6 (by decide) (fun c_6 => ?_) (fun c_6 => ?_)
    · refine x_return (pc := 17) dX11_needTray_17 rfl (by decide) ?_
      first | exact ⟨rfl, rfl, rfl, Or.inl ⟨by omega, rfl⟩⟩ | exact ⟨rfl, rfl, rfl, Or.inr ⟨by omega, rfl⟩⟩
    · refine x_throw (pc := 9) thX11_383_385 rfl trivial dX11_needTray_9 dX11_needTray_12 dX11_needTray_13 dX11_needTray_16 (by decide) ?_
      first | exact ⟨rfl, rfl, rfl, Or.inl ⟨by omega, rfl⟩⟩ | exact ⟨rfl, rfl, rfl, Or.inr ⟨by omega, rfl⟩⟩
theorem s_needImage {l : Launch} {E : aE} {N : Nat} {S : aS} {M : aM} (hfl : l.stackTraces = false) (v : Int) (hC : lyC S) : aMt l E pX11_needImage [(2, 0), (0, v)] N S M (aN (0 ≤ v ∧ v ≤ 2) 2 N S M) := by
  refine a_met hfl rfl (by decide +kernel) (Nat.le_of_ble_eq_true rfl) ?_
  refine x_iload_n (pc := 0) dX11_needImage_0 rfl rfl ?_
  refine x_if_lt (tgt := 13) (pc := 1) dX11_needImage_1 (by decide) (fun c_1 => ?_) (fun c_1 => ?_)
  · refine x_throw (pc := 13) thX11_383_385 rfl trivial dX11_needImage_13 dX11_needImage_16 dX11_needImage_17 dX11_needImage_20 (by decide) ?_
    first | exact ⟨rfl, rfl, rfl, Or.inl ⟨by omega, rfl⟩⟩ | exact ⟨rfl, rfl, rfl, Or.inr ⟨by omega, rfl⟩⟩
  · refine x_iload_n (pc := 4) dX11_needImage_4 rfl rfl ?_
    refine x_aload_n (pc := 5) dX11_needImage_5 rfl rfl ?_
    refine x_getR (jj := 1) (pc := 6) dX11_needImage_6 fX11_16 (sC_0 hC) rfl (by decide) rfl rC_0_1 ?_
    refine x_alen (pc := 9) dX11_needImage_9 (sC_16 hC) (by decide) (by decide) ?_
    refine x_icmp_lt (tgt := 21) (pc := 10) dX11_needImage_10 (by decide) (fun c_10 => ?_) (fun c_10 => ?_)
    · refine x_return (pc := 21) dX11_needImage_21 rfl (by decide) ?_
      first | exact ⟨rfl, rfl, rfl, Or.inl ⟨by omega, rfl⟩⟩ | exact ⟨rfl, rfl, rfl, Or.inr ⟨by omega, rfl⟩⟩
    · refine x_throw (pc := 13) thX11_383_385 rfl trivial dX11_needImage_13 dX11_needImage_16 dX11_needImage_17 dX11_needImage_20 (by decide) ?_
      first | exact ⟨rfl, rfl, rfl, Or.inl ⟨by omega, rfl⟩⟩ | exact ⟨rfl, rfl, rfl, Or.inr ⟨by omega, rfl⟩⟩
theorem s_needLaid {l : Launch} {E : aE} {N : Nat} {S : aS} {M : aM} (hfl : l.stackTraces = false) (v : Int) (hC : lyC S) (hv : 0 ≤ v ∧ v ≤ 3) : aMt l E pX11_needLaid [(2, 0), (0, v)] N S M (aN (M 105 v ≠ -1) 1 N S M) := by
  refine a_met hfl rfl (by decide +kernel) (Nat.le_of_ble_eq_true rfl) ?_
  refine x_aload_n (pc := 0) dX11_needLaid_0 rfl rfl ?_
  refine x_getR (jj := 9) (pc := 1) dX11_needLaid_1 fX11_86 (sC_0 hC) rfl (by decide) rfl rC_0_9 ?_
  refine x_getR (jj := 0) (pc := 4) dX11_needLaid_4 fX11_332 (sC_104 hC) rfl (by decide) rfl rC_104_0 ?_
  refine x_iload_n (pc := 7) dX11_needLaid_7 rfl rfl ?_
  refine x_ialoadV (pc := 8) dX11_needLaid_8 (sC_105 hC) (by omega) (by (repeat (first | rewrite [up_s] | rewrite [up_i (by omega)] | rewrite [up_a (by omega)])); rfl) (fun g_8 => ?_)
  refine x_iconst (pc := 9) dX11_needLaid_9 (by decide) ?_
  refine x_icmp_ne (tgt := 21) (pc := 10) dX11_needLaid_10 (by decide) (fun c_10 => ?_) (fun c_10 => ?_)
  · refine x_return (pc := 21) dX11_needLaid_21 rfl (by decide) ?_
    first | exact ⟨rfl, rfl, rfl, Or.inl ⟨by omega, rfl⟩⟩ | exact ⟨rfl, rfl, rfl, Or.inr ⟨by omega, rfl⟩⟩
  · refine x_throw (pc := 13) thX11_352_354 rfl trivial dX11_needLaid_13 dX11_needLaid_16 dX11_needLaid_17 dX11_needLaid_20 (by decide) ?_
    first | exact ⟨rfl, rfl, rfl, Or.inl ⟨by omega, rfl⟩⟩ | exact ⟨rfl, rfl, rfl, Or.inr ⟨by omega, rfl⟩⟩
theorem s_needSacks {l : Launch} {E : aE} {N : Nat} {S : aS} {M : aM} (hfl : l.stackTraces = false) (v : Int) (hC : lyC S) : aMt l E pX11_needSacks [(2, 0), (0, v)] N S M (aN (0 ≤ v ∧ v ≤ 8) 0 N S M) := by
  refine a_met hfl rfl (by decide +kernel) (Nat.le_of_ble_eq_true rfl) ?_
  refine x_aload_n (pc := 0) dX11_needSacks_0 rfl rfl ?_
  refine x_iload_n (pc := 1) dX11_needSacks_1 rfl rfl ?_
  refine x_iconst (pc := 2) dX11_needSacks_2 (by decide) ?_
  refine x_bipush (pc := 3) dX11_needSacks_3 (by decide) ?_
  refine x_callV3 (pc := 5) dX11_needSacks_5 rfl kX11_175 (s_needWithin hfl _ _ _) (sC_0 hC) rfl rfl (Nat.le_of_ble_eq_true rfl) (k_N (fun h_5 => ?_)) (n_N (fun h_5 => ⟨rfl, rfl, rfl, Or.inr ⟨by omega, rfl⟩⟩))
  refine x_return (pc := 8) dX11_needSacks_8 rfl (by decide) ?_
  first | exact ⟨rfl, rfl, rfl, Or.inl ⟨by omega, rfl⟩⟩ | exact ⟨rfl, rfl, rfl, Or.inr ⟨by omega, rfl⟩⟩
theorem s_needSet {l : Launch} {E : aE} {N : Nat} {S : aS} {M : aM} (hfl : l.stackTraces = false) (v : Int) (hC : lyC S) (h0 : 0 ≤ M 1 1 ∧ M 1 1 ≤ 7) : aMt l E pX11_needSet [(2, 0), (0, v)] N S M (aN (0 < v ∧ v < b_shl 1 (M 1 1)) 0 N S M) := by
  refine a_met hfl rfl (by decide +kernel) (Nat.le_of_ble_eq_true rfl) ?_
  have hs := bt_fin (n := 8) (m := 1) (P := fun i _ => 1 ≤ b_shl 1 i ∧ b_shl 1 i ≤ 128) (by decide +kernel) (a := M 1 1) (by omega) (b := 0) (by omega)
  refine x_aload_n (pc := 0) dX11_needSet_0 rfl rfl ?_
  refine x_iload_n (pc := 1) dX11_needSet_1 rfl rfl ?_
  refine x_iconst (pc := 2) dX11_needSet_2 (by decide) ?_
  refine x_iconst (pc := 3) dX11_needSet_3 (by decide) ?_
  refine x_aload_n (pc := 4) dX11_needSet_4 rfl rfl ?_
  refine x_getR (jj := 0) (pc := 5) dX11_needSet_5 fX11_10 (sC_0 hC) rfl (by decide) rfl rC_0_0 ?_
  refine x_getIV (jj := 1) (pc := 8) dX11_needSet_8 fX11_355 (hC.2.1).2.1 rfl (by decide) rfl (by (repeat (first | rewrite [up_s] | rewrite [up_i (by omega)] | rewrite [up_a (by omega)])); rfl) ?_
  refine x_ishl (pc := 11) dX11_needSet_11 ?_
  refine x_iconst (pc := 12) dX11_needSet_12 (by decide) ?_
  refine x_isub (pc := 13) dX11_needSet_13 (by omega) ?_
  refine x_callV3 (pc := 14) dX11_needSet_14 rfl kX11_175 (s_needWithin hfl _ _ _) (sC_0 hC) rfl rfl (Nat.le_of_ble_eq_true rfl) (k_N (fun h_14 => ?_)) (n_N (fun h_14 => ⟨rfl, rfl, rfl, Or.inr ⟨by omega, rfl⟩⟩))
  refine x_return (pc := 17) dX11_needSet_17 rfl (by decide) ?_
  first | exact ⟨rfl, rfl, rfl, Or.inl ⟨by omega, rfl⟩⟩ | exact ⟨rfl, rfl, rfl, Or.inr ⟨by omega, rfl⟩⟩
theorem s_needHouse {l : Launch} {E : aE} {N : Nat} {S : aS} {M : aM} (hfl : l.stackTraces = false) (v : Int) (hC : lyC S) : aMt l E pX11_needHouse [(2, 0), (0, v)] N S M (aN (0 ≤ v ∧ v < M 1 1) 2 N S M) := by
  refine a_met hfl rfl (by decide +kernel) (Nat.le_of_ble_eq_true rfl) ?_
  refine x_aload_n (pc := 0) dX11_needHouse_0 rfl rfl ?_
  refine x_getR (jj := 0) (pc := 1) dX11_needHouse_1 fX11_10 (sC_0 hC) rfl (by decide) rfl rC_0_0 ?_
  refine x_iload_n (pc := 4) dX11_needHouse_4 rfl rfl ?_
  refine x_callV1 (pc := 5) dX11_needHouse_5 rfl kX11_380 (s_has hfl 1 _ hC.2.1) (hC.2.1).2.1 rfl rfl (Nat.le_of_ble_eq_true rfl) (k_R ?_) n_R
  refine x_if_ne (tgt := 19) (pc := 8) dX11_needHouse_8 (by decide) (fun c_8 => ?_) (fun c_8 => ?_)
  · refine x_return (pc := 19) dX11_needHouse_19 rfl (by decide) ?_
    split at c_8 <;> first | exact ⟨rfl, rfl, rfl, Or.inl ⟨by omega, rfl⟩⟩ | exact ⟨rfl, rfl, rfl, Or.inr ⟨by omega, rfl⟩⟩ | (exfalso; omega)
  · refine x_throw (pc := 11) thX11_383_385 rfl trivial dX11_needHouse_11 dX11_needHouse_14 dX11_needHouse_15 dX11_needHouse_18 (by decide) ?_
    split at c_8 <;> first | exact ⟨rfl, rfl, rfl, Or.inl ⟨by omega, rfl⟩⟩ | exact ⟨rfl, rfl, rfl, Or.inr ⟨by omega, rfl⟩⟩ | (exfalso; omega)
/-- ends if c, else throws one of two -/
def aN2 (c1 : Prop) (x1 : Nat) (c2 : Prop) (x2 : Nat) (N : Nat) (S : aS) (M : aM) : aQ := fun o N' S' M' => N' = N ∧ S' = S ∧ M' = M ∧ ((c1 ∧ c2 ∧ o = .inl none) ∨ (¬ c1 ∧ o = .inr x1) ∨ (c1 ∧ ¬ c2 ∧ o = .inr x2))
theorem s_needTwo {l : Launch} {E : aE} {N : Nat} {S : aS} {M : aM} (hfl : l.stackTraces = false) (a b : Int) (hC : lyC S) : aMt l E pX11_needTwo [(2, 0), (0, a), (0, b)] N S M (aN2 ((0 ≤ a ∧ a < M 1 1) ∧ (0 ≤ b ∧ b < M 1 1)) 2 (a ≠ b) 0 N S M) := by
  refine a_met hfl rfl (by decide +kernel) (Nat.le_of_ble_eq_true rfl) ?_
  refine x_aload_n (pc := 0) dX11_needTwo_0 rfl rfl ?_
  refine x_iload_n (pc := 1) dX11_needTwo_1 rfl rfl ?_
  refine x_callV1 (pc := 2) dX11_needTwo_2 rfl kX11_101 (s_needHouse hfl _ hC) (sC_0 hC) rfl rfl (Nat.le_of_ble_eq_true rfl) (k_N (fun h_2 => ?_)) (n_N (fun h_2 => ⟨rfl, rfl, rfl, Or.inr (Or.inl ⟨by omega, rfl⟩)⟩))
  refine x_aload_n (pc := 5) dX11_needTwo_5 rfl rfl ?_
  refine x_iload_n (pc := 6) dX11_needTwo_6 rfl rfl ?_
  refine x_callV1 (pc := 7) dX11_needTwo_7 rfl kX11_101 (s_needHouse hfl _ hC) (sC_0 hC) rfl rfl (Nat.le_of_ble_eq_true rfl) (k_N (fun h_7 => ?_)) (n_N (fun h_7 => ⟨rfl, rfl, rfl, Or.inr (Or.inl ⟨by omega, rfl⟩)⟩))
  refine x_iload_n (pc := 10) dX11_needTwo_10 rfl rfl ?_
  refine x_iload_n (pc := 11) dX11_needTwo_11 rfl rfl ?_
  refine x_icmp_ne (tgt := 23) (pc := 12) dX11_needTwo_12 (by decide) (fun c_12 => ?_) (fun c_12 => ?_)
  · refine x_return (pc := 23) dX11_needTwo_23 rfl (by decide) ?_
    first | exact ⟨rfl, rfl, rfl, Or.inl ⟨by omega, by omega, rfl⟩⟩ | exact ⟨rfl, rfl, rfl, Or.inr (Or.inr ⟨by omega, by omega, rfl⟩)⟩
  · refine x_throw (pc := 15) thX11_148_150 rfl trivial dX11_needTwo_15 dX11_needTwo_18 dX11_needTwo_19 dX11_needTwo_22 (by decide) ?_
    first | exact ⟨rfl, rfl, rfl, Or.inl ⟨by omega, by omega, rfl⟩⟩ | exact ⟨rfl, rfl, rfl, Or.inr (Or.inr ⟨by omega, by omega, rfl⟩)⟩
theorem s_needMember {l : Launch} {E : aE} {N : Nat} {S : aS} {M : aM} (hfl : l.stackTraces = false) (set h : Int) : aMt l E pX11_needMember [(2, 0), (0, set), (0, h)] N S M (aN (isOfV set h = 1) 0 N S M) := by
  refine a_met hfl rfl (by decide +kernel) (Nat.le_of_ble_eq_true rfl) ?_
  refine x_iload_n (pc := 0) dX11_needMember_0 rfl rfl ?_
  refine x_iload_n (pc := 1) dX11_needMember_1 rfl rfl ?_
  refine x_callS2 (pc := 2) dX11_needMember_2 rfl kX11_121 (s_isOf hfl _ _) rfl (Nat.le_of_ble_eq_true rfl) (k_R ?_) n_R
  refine x_if_ne (tgt := 16) (pc := 5) dX11_needMember_5 (by decide) (fun c_5 => ?_) (fun c_5 => ?_)
  · refine x_return (pc := 16) dX11_needMember_16 rfl (by decide) ?_
    have := isOfV01 set h
    first | exact ⟨rfl, rfl, rfl, Or.inl ⟨by omega, rfl⟩⟩ | exact ⟨rfl, rfl, rfl, Or.inr ⟨by omega, rfl⟩⟩
  · refine x_throw (pc := 8) thX11_148_150 rfl trivial dX11_needMember_8 dX11_needMember_11 dX11_needMember_12 dX11_needMember_15 (by decide) ?_
    have := isOfV01 set h
    first | exact ⟨rfl, rfl, rfl, Or.inl ⟨by omega, rfl⟩⟩ | exact ⟨rfl, rfl, rfl, Or.inr ⟨by omega, rfl⟩⟩
