def sh0 (L : Nat) : List (Nat × Nat) := [(9, L), (13, 4), (11, 6), (1, 1757), (1, 251), (1, 250), (1, 250), (3, 4), (10, 3), (2, 251), (10, 3), (2, 251), (10, 3), (2, 251), (10, 3), (2, 251), (12, 8), (1, 250), (1, 250), (1, 250), (2, 251), (2, 251), (1, 251), (1, 251), (12, 8), (1, 250), (1, 250), (1, 250), (2, 251), (2, 251), (1, 251), (1, 251), (14, 31), (1, 251), (1, 251), (1, 251), (1, 251), (1, 251), (1, 251), (1, 251), (2, 1004), (1, 4), (2, 251), (1, 251), (1, 251), (1, 252), (1, 251), (1, 1004), (1, 251), (1, 251), (1, 1004), (1, 251), (1, 251), (1, 252)]
def mr0 : Nat → Int → Option Nat := (jur (jur (jur (jur (jur (jur (jur (jur (jur (jur (jur (jur (jur (jur (jur (jur (jur (jur (jur (jur (jur (jur (jur (jur (jur (jur (jur (jur (jur (jur (jur (jur (jur (jur (jur (jur (jur (jur (jur (jur (jur (jur (jur (jur (jur (jur (jur (jur (jur (jur (jur (fun _ _ => none) 2 1 (some 3)) 2 2 (some 4)) 2 3 (some 5)) 2 4 (some 6)) 1 0 (some 2)) 1 1 (some 7)) 8 0 (some 9)) 7 0 (some 8)) 10 0 (some 11)) 7 1 (some 10)) 12 0 (some 13)) 7 2 (some 12)) 14 0 (some 15)) 7 3 (some 14)) 16 1 (some 17)) 16 2 (some 18)) 16 3 (some 19)) 16 4 (some 20)) 16 5 (some 21)) 16 6 (some 22)) 16 7 (some 23)) 1 2 (some 16)) 24 1 (some 25)) 24 2 (some 26)) 24 3 (some 27)) 24 4 (some 28)) 24 5 (some 29)) 24 6 (some 30)) 24 7 (some 31)) 1 3 (some 24)) 32 2 (some 33)) 32 3 (some 34)) 32 4 (some 35)) 32 5 (some 36)) 32 6 (some 37)) 32 7 (some 38)) 32 8 (some 39)) 32 9 (some 40)) 32 10 (some 41)) 32 12 (some 42)) 32 14 (some 43)) 32 15 (some 44)) 32 16 (some 45)) 32 18 (some 46)) 32 19 (some 47)) 32 21 (some 48)) 32 25 (some 49)) 32 26 (some 50)) 32 27 (some 51)) 32 28 (some 52)) 32 30 (some 53))
def g0 (L : Nat) : jG := (sh0 L, mr0)
theorem sk_0 (L : Nat) : (jsh (g0 L) 0).1 = 9 := rfl
theorem sn_0 (L : Nat) : (jsh (g0 L) 0).2 = L := rfl
theorem sk_1 (L : Nat) : (jsh (g0 L) 1).1 = 13 := rfl
theorem sn_1 (L : Nat) : (jsh (g0 L) 1).2 = 4 := rfl
theorem sk_2 (L : Nat) : (jsh (g0 L) 2).1 = 11 := rfl
theorem sn_2 (L : Nat) : (jsh (g0 L) 2).2 = 6 := rfl
theorem sk_3 (L : Nat) : (jsh (g0 L) 3).1 = 1 := rfl
theorem sn_3 (L : Nat) : (jsh (g0 L) 3).2 = 1757 := rfl
theorem sk_4 (L : Nat) : (jsh (g0 L) 4).1 = 1 := rfl
theorem sn_4 (L : Nat) : (jsh (g0 L) 4).2 = 251 := rfl
theorem sk_5 (L : Nat) : (jsh (g0 L) 5).1 = 1 := rfl
theorem sn_5 (L : Nat) : (jsh (g0 L) 5).2 = 250 := rfl
theorem sk_6 (L : Nat) : (jsh (g0 L) 6).1 = 1 := rfl
theorem sn_6 (L : Nat) : (jsh (g0 L) 6).2 = 250 := rfl
theorem sk_7 (L : Nat) : (jsh (g0 L) 7).1 = 3 := rfl
theorem sn_7 (L : Nat) : (jsh (g0 L) 7).2 = 4 := rfl
theorem sk_8 (L : Nat) : (jsh (g0 L) 8).1 = 10 := rfl
theorem sn_8 (L : Nat) : (jsh (g0 L) 8).2 = 3 := rfl
theorem sk_9 (L : Nat) : (jsh (g0 L) 9).1 = 2 := rfl
theorem sn_9 (L : Nat) : (jsh (g0 L) 9).2 = 251 := rfl
theorem sk_10 (L : Nat) : (jsh (g0 L) 10).1 = 10 := rfl
theorem sn_10 (L : Nat) : (jsh (g0 L) 10).2 = 3 := rfl
theorem sk_11 (L : Nat) : (jsh (g0 L) 11).1 = 2 := rfl
theorem sn_11 (L : Nat) : (jsh (g0 L) 11).2 = 251 := rfl
theorem sk_12 (L : Nat) : (jsh (g0 L) 12).1 = 10 := rfl
theorem sn_12 (L : Nat) : (jsh (g0 L) 12).2 = 3 := rfl
theorem sk_13 (L : Nat) : (jsh (g0 L) 13).1 = 2 := rfl
theorem sn_13 (L : Nat) : (jsh (g0 L) 13).2 = 251 := rfl
theorem sk_14 (L : Nat) : (jsh (g0 L) 14).1 = 10 := rfl
theorem sn_14 (L : Nat) : (jsh (g0 L) 14).2 = 3 := rfl
theorem sk_15 (L : Nat) : (jsh (g0 L) 15).1 = 2 := rfl
theorem sn_15 (L : Nat) : (jsh (g0 L) 15).2 = 251 := rfl
theorem sk_16 (L : Nat) : (jsh (g0 L) 16).1 = 12 := rfl
theorem sn_16 (L : Nat) : (jsh (g0 L) 16).2 = 8 := rfl
theorem sk_17 (L : Nat) : (jsh (g0 L) 17).1 = 1 := rfl
theorem sn_17 (L : Nat) : (jsh (g0 L) 17).2 = 250 := rfl
theorem sk_18 (L : Nat) : (jsh (g0 L) 18).1 = 1 := rfl
theorem sn_18 (L : Nat) : (jsh (g0 L) 18).2 = 250 := rfl
theorem sk_19 (L : Nat) : (jsh (g0 L) 19).1 = 1 := rfl
theorem sn_19 (L : Nat) : (jsh (g0 L) 19).2 = 250 := rfl
theorem sk_20 (L : Nat) : (jsh (g0 L) 20).1 = 2 := rfl
theorem sn_20 (L : Nat) : (jsh (g0 L) 20).2 = 251 := rfl
theorem sk_21 (L : Nat) : (jsh (g0 L) 21).1 = 2 := rfl
theorem sn_21 (L : Nat) : (jsh (g0 L) 21).2 = 251 := rfl
theorem sk_22 (L : Nat) : (jsh (g0 L) 22).1 = 1 := rfl
theorem sn_22 (L : Nat) : (jsh (g0 L) 22).2 = 251 := rfl
theorem sk_23 (L : Nat) : (jsh (g0 L) 23).1 = 1 := rfl
theorem sn_23 (L : Nat) : (jsh (g0 L) 23).2 = 251 := rfl
theorem sk_24 (L : Nat) : (jsh (g0 L) 24).1 = 12 := rfl
theorem sn_24 (L : Nat) : (jsh (g0 L) 24).2 = 8 := rfl
theorem sk_25 (L : Nat) : (jsh (g0 L) 25).1 = 1 := rfl
theorem sn_25 (L : Nat) : (jsh (g0 L) 25).2 = 250 := rfl
theorem sk_26 (L : Nat) : (jsh (g0 L) 26).1 = 1 := rfl
theorem sn_26 (L : Nat) : (jsh (g0 L) 26).2 = 250 := rfl
theorem sk_27 (L : Nat) : (jsh (g0 L) 27).1 = 1 := rfl
theorem sn_27 (L : Nat) : (jsh (g0 L) 27).2 = 250 := rfl
theorem sk_28 (L : Nat) : (jsh (g0 L) 28).1 = 2 := rfl
theorem sn_28 (L : Nat) : (jsh (g0 L) 28).2 = 251 := rfl
theorem sk_29 (L : Nat) : (jsh (g0 L) 29).1 = 2 := rfl
theorem sn_29 (L : Nat) : (jsh (g0 L) 29).2 = 251 := rfl
theorem sk_30 (L : Nat) : (jsh (g0 L) 30).1 = 1 := rfl
theorem sn_30 (L : Nat) : (jsh (g0 L) 30).2 = 251 := rfl
theorem sk_31 (L : Nat) : (jsh (g0 L) 31).1 = 1 := rfl
theorem sn_31 (L : Nat) : (jsh (g0 L) 31).2 = 251 := rfl
theorem sk_32 (L : Nat) : (jsh (g0 L) 32).1 = 14 := rfl
theorem sn_32 (L : Nat) : (jsh (g0 L) 32).2 = 31 := rfl
theorem sk_33 (L : Nat) : (jsh (g0 L) 33).1 = 1 := rfl
theorem sn_33 (L : Nat) : (jsh (g0 L) 33).2 = 251 := rfl
theorem sk_34 (L : Nat) : (jsh (g0 L) 34).1 = 1 := rfl
theorem sn_34 (L : Nat) : (jsh (g0 L) 34).2 = 251 := rfl
theorem sk_35 (L : Nat) : (jsh (g0 L) 35).1 = 1 := rfl
theorem sn_35 (L : Nat) : (jsh (g0 L) 35).2 = 251 := rfl
theorem sk_36 (L : Nat) : (jsh (g0 L) 36).1 = 1 := rfl
theorem sn_36 (L : Nat) : (jsh (g0 L) 36).2 = 251 := rfl
theorem sk_37 (L : Nat) : (jsh (g0 L) 37).1 = 1 := rfl
theorem sn_37 (L : Nat) : (jsh (g0 L) 37).2 = 251 := rfl
theorem sk_38 (L : Nat) : (jsh (g0 L) 38).1 = 1 := rfl
theorem sn_38 (L : Nat) : (jsh (g0 L) 38).2 = 251 := rfl
theorem sk_39 (L : Nat) : (jsh (g0 L) 39).1 = 1 := rfl
theorem sn_39 (L : Nat) : (jsh (g0 L) 39).2 = 251 := rfl
theorem sk_40 (L : Nat) : (jsh (g0 L) 40).1 = 2 := rfl
theorem sn_40 (L : Nat) : (jsh (g0 L) 40).2 = 1004 := rfl
theorem sk_41 (L : Nat) : (jsh (g0 L) 41).1 = 1 := rfl
theorem sn_41 (L : Nat) : (jsh (g0 L) 41).2 = 4 := rfl
theorem sk_42 (L : Nat) : (jsh (g0 L) 42).1 = 2 := rfl
theorem sn_42 (L : Nat) : (jsh (g0 L) 42).2 = 251 := rfl
theorem sk_43 (L : Nat) : (jsh (g0 L) 43).1 = 1 := rfl
theorem sn_43 (L : Nat) : (jsh (g0 L) 43).2 = 251 := rfl
theorem sk_44 (L : Nat) : (jsh (g0 L) 44).1 = 1 := rfl
theorem sn_44 (L : Nat) : (jsh (g0 L) 44).2 = 251 := rfl
theorem sk_45 (L : Nat) : (jsh (g0 L) 45).1 = 1 := rfl
theorem sn_45 (L : Nat) : (jsh (g0 L) 45).2 = 252 := rfl
theorem sk_46 (L : Nat) : (jsh (g0 L) 46).1 = 1 := rfl
theorem sn_46 (L : Nat) : (jsh (g0 L) 46).2 = 251 := rfl
theorem sk_47 (L : Nat) : (jsh (g0 L) 47).1 = 1 := rfl
theorem sn_47 (L : Nat) : (jsh (g0 L) 47).2 = 1004 := rfl
theorem sk_48 (L : Nat) : (jsh (g0 L) 48).1 = 1 := rfl
theorem sn_48 (L : Nat) : (jsh (g0 L) 48).2 = 251 := rfl
theorem sk_49 (L : Nat) : (jsh (g0 L) 49).1 = 1 := rfl
theorem sn_49 (L : Nat) : (jsh (g0 L) 49).2 = 251 := rfl
theorem sk_50 (L : Nat) : (jsh (g0 L) 50).1 = 1 := rfl
theorem sn_50 (L : Nat) : (jsh (g0 L) 50).2 = 1004 := rfl
theorem sk_51 (L : Nat) : (jsh (g0 L) 51).1 = 1 := rfl
theorem sn_51 (L : Nat) : (jsh (g0 L) 51).2 = 251 := rfl
theorem sk_52 (L : Nat) : (jsh (g0 L) 52).1 = 1 := rfl
theorem sn_52 (L : Nat) : (jsh (g0 L) 52).2 = 251 := rfl
theorem sk_53 (L : Nat) : (jsh (g0 L) 53).1 = 1 := rfl
theorem sn_53 (L : Nat) : (jsh (g0 L) 53).2 = 252 := rfl
theorem rf_2_1 (L : Nat) : (g0 L).2 2 1 = some 3 := rfl
theorem rf_2_2 (L : Nat) : (g0 L).2 2 2 = some 4 := rfl
theorem rf_2_3 (L : Nat) : (g0 L).2 2 3 = some 5 := rfl
theorem rf_2_4 (L : Nat) : (g0 L).2 2 4 = some 6 := rfl
theorem rf_1_0 (L : Nat) : (g0 L).2 1 0 = some 2 := rfl
theorem rf_1_1 (L : Nat) : (g0 L).2 1 1 = some 7 := rfl
theorem rf_8_0 (L : Nat) : (g0 L).2 8 0 = some 9 := rfl
theorem rf_7_0 (L : Nat) : (g0 L).2 7 0 = some 8 := rfl
theorem rf_10_0 (L : Nat) : (g0 L).2 10 0 = some 11 := rfl
theorem rf_7_1 (L : Nat) : (g0 L).2 7 1 = some 10 := rfl
theorem rf_12_0 (L : Nat) : (g0 L).2 12 0 = some 13 := rfl
theorem rf_7_2 (L : Nat) : (g0 L).2 7 2 = some 12 := rfl
theorem rf_14_0 (L : Nat) : (g0 L).2 14 0 = some 15 := rfl
theorem rf_7_3 (L : Nat) : (g0 L).2 7 3 = some 14 := rfl
theorem rf_16_1 (L : Nat) : (g0 L).2 16 1 = some 17 := rfl
theorem rf_16_2 (L : Nat) : (g0 L).2 16 2 = some 18 := rfl
theorem rf_16_3 (L : Nat) : (g0 L).2 16 3 = some 19 := rfl
theorem rf_16_4 (L : Nat) : (g0 L).2 16 4 = some 20 := rfl
theorem rf_16_5 (L : Nat) : (g0 L).2 16 5 = some 21 := rfl
theorem rf_16_6 (L : Nat) : (g0 L).2 16 6 = some 22 := rfl
theorem rf_16_7 (L : Nat) : (g0 L).2 16 7 = some 23 := rfl
theorem rf_1_2 (L : Nat) : (g0 L).2 1 2 = some 16 := rfl
theorem rf_24_1 (L : Nat) : (g0 L).2 24 1 = some 25 := rfl
theorem rf_24_2 (L : Nat) : (g0 L).2 24 2 = some 26 := rfl
theorem rf_24_3 (L : Nat) : (g0 L).2 24 3 = some 27 := rfl
theorem rf_24_4 (L : Nat) : (g0 L).2 24 4 = some 28 := rfl
theorem rf_24_5 (L : Nat) : (g0 L).2 24 5 = some 29 := rfl
theorem rf_24_6 (L : Nat) : (g0 L).2 24 6 = some 30 := rfl
theorem rf_24_7 (L : Nat) : (g0 L).2 24 7 = some 31 := rfl
theorem rf_1_3 (L : Nat) : (g0 L).2 1 3 = some 24 := rfl
theorem rf_32_2 (L : Nat) : (g0 L).2 32 2 = some 33 := rfl
theorem rf_32_3 (L : Nat) : (g0 L).2 32 3 = some 34 := rfl
theorem rf_32_4 (L : Nat) : (g0 L).2 32 4 = some 35 := rfl
theorem rf_32_5 (L : Nat) : (g0 L).2 32 5 = some 36 := rfl
theorem rf_32_6 (L : Nat) : (g0 L).2 32 6 = some 37 := rfl
theorem rf_32_7 (L : Nat) : (g0 L).2 32 7 = some 38 := rfl
theorem rf_32_8 (L : Nat) : (g0 L).2 32 8 = some 39 := rfl
theorem rf_32_9 (L : Nat) : (g0 L).2 32 9 = some 40 := rfl
theorem rf_32_10 (L : Nat) : (g0 L).2 32 10 = some 41 := rfl
theorem rf_32_12 (L : Nat) : (g0 L).2 32 12 = some 42 := rfl
theorem rf_32_14 (L : Nat) : (g0 L).2 32 14 = some 43 := rfl
theorem rf_32_15 (L : Nat) : (g0 L).2 32 15 = some 44 := rfl
theorem rf_32_16 (L : Nat) : (g0 L).2 32 16 = some 45 := rfl
theorem rf_32_18 (L : Nat) : (g0 L).2 32 18 = some 46 := rfl
theorem rf_32_19 (L : Nat) : (g0 L).2 32 19 = some 47 := rfl
theorem rf_32_21 (L : Nat) : (g0 L).2 32 21 = some 48 := rfl
theorem rf_32_25 (L : Nat) : (g0 L).2 32 25 = some 49 := rfl
theorem rf_32_26 (L : Nat) : (g0 L).2 32 26 = some 50 := rfl
theorem rf_32_27 (L : Nat) : (g0 L).2 32 27 = some 51 := rfl
theorem rf_32_28 (L : Nat) : (g0 L).2 32 28 = some 52 := rfl
theorem rf_32_30 (L : Nat) : (g0 L).2 32 30 = some 53 := rfl
