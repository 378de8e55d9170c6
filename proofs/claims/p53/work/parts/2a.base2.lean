/-! more small facts: reads behind writes, numbers -/
section
theorem xN_0 : ((0 : Nat) : Int) = 0 := rfl
theorem xN_2 : ((2 : Nat) : Int) = 2 := rfl
theorem xN_3 : ((3 : Nat) : Int) = 3 := rfl
theorem xN_6 : ((6 : Nat) : Int) = 6 := rfl
theorem xN_7 : ((7 : Nat) : Int) = 7 := rfl
theorem xN_8 : ((8 : Nat) : Int) = 8 := rfl
theorem xN_9 : ((9 : Nat) : Int) = 9 := rfl
theorem xN_10 : ((10 : Nat) : Int) = 10 := rfl
theorem xN_11 : ((11 : Nat) : Int) = 11 := rfl
theorem xN_12 : ((12 : Nat) : Int) = 12 := rfl
theorem xN_13 : ((13 : Nat) : Int) = 13 := rfl
theorem xN_14 : ((14 : Nat) : Int) = 14 := rfl
theorem xN_15 : ((15 : Nat) : Int) = 15 := rfl
theorem xN_16 : ((16 : Nat) : Int) = 16 := rfl
theorem xN_17 : ((17 : Nat) : Int) = 17 := rfl
theorem xN_18 : ((18 : Nat) : Int) = 18 := rfl
theorem xN_19 : ((19 : Nat) : Int) = 19 := rfl
theorem xN_20 : ((20 : Nat) : Int) = 20 := rfl
theorem xN_21 : ((21 : Nat) : Int) = 21 := rfl
theorem xN_22 : ((22 : Nat) : Int) = 22 := rfl
theorem xN_23 : ((23 : Nat) : Int) = 23 := rfl
theorem xN_24 : ((24 : Nat) : Int) = 24 := rfl
theorem xN_25 : ((25 : Nat) : Int) = 25 := rfl
theorem xN_26 : ((26 : Nat) : Int) = 26 := rfl
theorem xN_27 : ((27 : Nat) : Int) = 27 := rfl
theorem xN_28 : ((28 : Nat) : Int) = 28 := rfl
theorem xN_29 : ((29 : Nat) : Int) = 29 := rfl
theorem xN_30 : ((30 : Nat) : Int) = 30 := rfl
theorem xN_31 : ((31 : Nat) : Int) = 31 := rfl
theorem xN_32 : ((32 : Nat) : Int) = 32 := rfl
theorem xN_33 : ((33 : Nat) : Int) = 33 := rfl
theorem xN_34 : ((34 : Nat) : Int) = 34 := rfl
theorem xN_35 : ((35 : Nat) : Int) = 35 := rfl
theorem xN_36 : ((36 : Nat) : Int) = 36 := rfl
theorem xN_37 : ((37 : Nat) : Int) = 37 := rfl
theorem xN_38 : ((38 : Nat) : Int) = 38 := rfl
theorem xN_39 : ((39 : Nat) : Int) = 39 := rfl
theorem xN_40 : ((40 : Nat) : Int) = 40 := rfl
theorem xN_41 : ((41 : Nat) : Int) = 41 := rfl
theorem xN_42 : ((42 : Nat) : Int) = 42 := rfl
theorem xN_43 : ((43 : Nat) : Int) = 43 := rfl
theorem xN_44 : ((44 : Nat) : Int) = 44 := rfl
theorem xN_45 : ((45 : Nat) : Int) = 45 := rfl
theorem xN_46 : ((46 : Nat) : Int) = 46 := rfl
theorem xN_47 : ((47 : Nat) : Int) = 47 := rfl
theorem xN_48 : ((48 : Nat) : Int) = 48 := rfl
theorem xN_49 : ((49 : Nat) : Int) = 49 := rfl
theorem xN_50 : ((50 : Nat) : Int) = 50 := rfl
theorem xN_51 : ((51 : Nat) : Int) = 51 := rfl
theorem xN_52 : ((52 : Nat) : Int) = 52 := rfl
theorem xN_53 : ((53 : Nat) : Int) = 53 := rfl
theorem xN_54 : ((54 : Nat) : Int) = 54 := rfl
theorem xN_55 : ((55 : Nat) : Int) = 55 := rfl
variable {g : xGm} {b h h' k k' : Nat} {i i' z : Int}
theorem gs_off (hk : ¬ k' = k) : gs g (b + k) i z (b + k') = g (b + k') := gs_row g i z (by omega)
theorem gs_off0 (hk : ¬ k = 0) : gs g (b + k) i z b = g b := gs_row g i z (by omega)
theorem gs_0off (hk : ¬ k' = 0) : gs g b i z (b + k') = g (b + k') := gs_row g i z (by omega)
theorem gs_2 : gs g h i z h i' = if i' = i then z else g h i' := gs_at g h i z i'
theorem gs_num (hh : ¬ h' = h) : gs g h i z h' = g h' := gs_row g i z hh
end
