/-! small facts for the walks -/
section
theorem xisaT_ref (z : Nat) : (xisa (.ref z) = true) = True := eq_true rfl
theorem xisaT_ra (z : Nat) : (xisa (.retAddr z) = true) = True := eq_true rfl
theorem xisaT_null : (xisa .null = true) = True := eq_true rfl
theorem xc1T_int (z : Int32) : (xc1 (.int z) = true) = True := eq_true rfl
theorem xc1T_ref (z : Nat) : (xc1 (.ref z) = true) = True := eq_true rfl
theorem xc1T_ra (z : Nat) : (xc1 (.retAddr z) = true) = True := eq_true rfl
theorem xc1T_null : (xc1 .null = true) = True := eq_true rfl
theorem ti_0 : ti (0) = 0 := rfl
theorem ti_1 : ti (1) = 1 := rfl
theorem ti_2 : ti (2) = 2 := rfl
theorem ti_3 : ti (3) = 3 := rfl
theorem ti_4 : ti (4) = 4 := rfl
theorem ti_5 : ti (5) = 5 := rfl
theorem ti_6 : ti (6) = 6 := rfl
theorem ti_7 : ti (7) = 7 := rfl
theorem ti_8 : ti (8) = 8 := rfl
theorem ti_9 : ti (9) = 9 := rfl
theorem ti_10 : ti (10) = 10 := rfl
theorem ti_16 : ti (16) = 16 := rfl
theorem ti_19 : ti (19) = 19 := rfl
theorem ti_20 : ti (20) = 20 := rfl
theorem ti_29 : ti (29) = 29 := rfl
theorem ti_30 : ti (30) = 30 := rfl
theorem ti_31 : ti (31) = 31 := rfl
theorem ti_32 : ti (32) = 32 := rfl
theorem ti_35 : ti (35) = 35 := rfl
theorem ti_36 : ti (36) = 36 := rfl
theorem ti_38 : ti (38) = 38 := rfl
theorem ti_39 : ti (39) = 39 := rfl
theorem ti_40 : ti (40) = 40 := rfl
theorem ti_41 : ti (41) = 41 := rfl
theorem ti_42 : ti (42) = 42 := rfl
theorem ti_43 : ti (43) = 43 := rfl
theorem ti_44 : ti (44) = 44 := rfl
theorem ti_45 : ti (45) = 45 := rfl
theorem ti_46 : ti (46) = 46 := rfl
theorem ti_47 : ti (47) = 47 := rfl
theorem ti_48 : ti (48) = 48 := rfl
theorem ti_49 : ti (49) = 49 := rfl
theorem ti_50 : ti (50) = 50 := rfl
theorem ti_51 : ti (51) = 51 := rfl
theorem ti_52 : ti (52) = 52 := rfl
theorem ti_53 : ti (53) = 53 := rfl
theorem ti_54 : ti (54) = 54 := rfl
theorem ti_55 : ti (55) = 55 := rfl
theorem ti_56 : ti (56) = 56 := rfl
theorem ti_57 : ti (57) = 57 := rfl
theorem ti_58 : ti (58) = 58 := rfl
theorem ti_59 : ti (59) = 59 := rfl
theorem ti_60 : ti (60) = 60 := rfl
theorem ti_61 : ti (61) = 61 := rfl
theorem ti_62 : ti (62) = 62 := rfl
theorem ti_63 : ti (63) = 63 := rfl
theorem ti_64 : ti (64) = 64 := rfl
theorem ti_65 : ti (65) = 65 := rfl
theorem ti_74 : ti (74) = 74 := rfl
theorem ti_77 : ti (77) = 77 := rfl
theorem ti_126 : ti (126) = 126 := rfl
theorem ti_200 : ti (200) = 200 := rfl
theorem ti_201 : ti (201) = 201 := rfl
theorem ti_202 : ti (202) = 202 := rfl
theorem ti_203 : ti (203) = 203 := rfl
theorem ti_204 : ti (204) = 204 := rfl
theorem ti_205 : ti (205) = 205 := rfl
theorem ti_210 : ti (210) = 210 := rfl
theorem ti_255 : ti (255) = 255 := rfl
theorem ti_256 : ti (256) = 256 := rfl
theorem ti_400 : ti (400) = 400 := rfl
theorem ti_512 : ti (512) = 512 := rfl
theorem ti_600 : ti (600) = 600 := rfl
theorem ti_601 : ti (601) = 601 := rfl
theorem ti_602 : ti (602) = 602 := rfl
theorem ti_1000 : ti (1000) = 1000 := rfl
theorem ti_1023 : ti (1023) = 1023 := rfl
theorem ti_1024 : ti (1024) = 1024 := rfl
theorem ti_2000 : ti (2000) = 2000 := rfl
theorem ti_10000 : ti (10000) = 10000 := rfl
theorem ti_12602 : ti (12602) = 12602 := rfl
theorem ti_999999 : ti (999999) = 999999 := rfl
theorem ti_m999999 : ti (-999999) = -999999 := rfl
theorem ti_m1 : ti (-1) = -1 := rfl
theorem ti_2000000 : ti (2000000) = 2000000 := rfl
theorem ti_3000000 : ti (3000000) = 3000000 := rfl
theorem xN_1 : ((1 : Nat) : Int) = 1 := rfl
theorem xN_4 : ((4 : Nat) : Int) = 4 := rfl
theorem xN_5 : ((5 : Nat) : Int) = 5 := rfl
theorem xN_60 : ((60 : Nat) : Int) = 60 := rfl
theorem xN_61 : ((61 : Nat) : Int) = 61 := rfl
theorem xN_64 : ((64 : Nat) : Int) = 64 := rfl
theorem xN_200 : ((200 : Nat) : Int) = 200 := rfl
theorem xN_800 : ((800 : Nat) : Int) = 800 := rfl
theorem xN_12000 : ((12000 : Nat) : Int) = 12000 := rfl
theorem xN_12602 : ((12602 : Nat) : Int) = 12602 := rfl
/-- where a State lies -/
def StS (S : xLm) (b : Nat) : Prop := S.1 b = .inr (9, [some (.ref (b + 1)), some (.ref (b + 2)), some (.ref (b + 3)), some (.ref (b + 4)), some (.ref (b + 5)), none, none]) ∧ S.1 (b + 1) = .inl (0, 200) ∧ S.1 (b + 2) = .inl (0, 200) ∧ S.1 (b + 3) = .inl (0, 200) ∧ S.1 (b + 4) = .inl (0, 200) ∧ S.1 (b + 5) = .inl (0, 12000)
end
