set_option maxRecDepth 1000000 in
theorem mf_0 : mfG 0 := Or.inr ⟨rfl, by decide +kernel, by decide +kernel, by decide +kernel, by decide +kernel, by decide +kernel, by decide +kernel, rfl, Or.inr (Or.inl ⟨rfl, by decide +kernel, by decide +kernel⟩)⟩
set_option maxRecDepth 1000000 in
theorem mf_1 : mfG 1 := Or.inr ⟨rfl, by decide +kernel, by decide +kernel, by decide +kernel, by decide +kernel, by decide +kernel, by decide +kernel, rfl, Or.inr (Or.inl ⟨rfl, by decide +kernel, by decide +kernel⟩)⟩
set_option maxRecDepth 1000000 in
theorem mf_2 : mfG 2 := Or.inr ⟨rfl, by decide +kernel, by decide +kernel, by decide +kernel, by decide +kernel, by decide +kernel, by decide +kernel, rfl, Or.inr (Or.inl ⟨rfl, by decide +kernel, by decide +kernel⟩)⟩
set_option maxRecDepth 1000000 in
theorem mf_3 : mfG 3 := Or.inr ⟨rfl, by decide +kernel, by decide +kernel, by decide +kernel, by decide +kernel, by decide +kernel, by decide +kernel, rfl, Or.inr (Or.inl ⟨rfl, by decide +kernel, by decide +kernel⟩)⟩
set_option maxRecDepth 1000000 in
theorem mf_4 : mfG 4 := Or.inr ⟨rfl, by decide +kernel, by decide +kernel, by decide +kernel, by decide +kernel, by decide +kernel, by decide +kernel, rfl, Or.inr (Or.inl ⟨rfl, by decide +kernel, by decide +kernel⟩)⟩
set_option maxRecDepth 1000000 in
theorem mf_5 : mfG 5 := Or.inr ⟨rfl, by decide +kernel, by decide +kernel, by decide +kernel, by decide +kernel, by decide +kernel, by decide +kernel, rfl, Or.inr (Or.inl ⟨rfl, by decide +kernel, by decide +kernel⟩)⟩
set_option maxRecDepth 1000000 in
theorem mf_6 : mfG 6 := Or.inr ⟨rfl, by decide +kernel, by decide +kernel, by decide +kernel, by decide +kernel, by decide +kernel, by decide +kernel, rfl, Or.inr (Or.inl ⟨rfl, by decide +kernel, by decide +kernel⟩)⟩
set_option maxRecDepth 1000000 in
theorem mf_7 : mfG 7 := Or.inr ⟨rfl, by decide +kernel, by decide +kernel, by decide +kernel, by decide +kernel, by decide +kernel, by decide +kernel, rfl, Or.inr (Or.inl ⟨rfl, by decide +kernel, by decide +kernel⟩)⟩
set_option maxRecDepth 1000000 in
theorem mf_8 : mfG 8 := Or.inr ⟨rfl, by decide +kernel, by decide +kernel, by decide +kernel, by decide +kernel, by decide +kernel, by decide +kernel, rfl, Or.inl ⟨rfl, by decide +kernel, by decide +kernel, by decide +kernel⟩⟩
set_option maxRecDepth 1000000 in
theorem mf_9 : mfG 9 := Or.inr ⟨rfl, by decide +kernel, by decide +kernel, by decide +kernel, by decide +kernel, by decide +kernel, by decide +kernel, rfl, Or.inl ⟨rfl, by decide +kernel, by decide +kernel, by decide +kernel⟩⟩
set_option maxRecDepth 1000000 in
theorem mf_10 : mfG 10 := Or.inr ⟨rfl, by decide +kernel, by decide +kernel, by decide +kernel, by decide +kernel, by decide +kernel, by decide +kernel, rfl, Or.inl ⟨rfl, by decide +kernel, by decide +kernel, by decide +kernel⟩⟩
set_option maxRecDepth 1000000 in
theorem mf_11 : mfG 11 := Or.inr ⟨rfl, by decide +kernel, by decide +kernel, by decide +kernel, by decide +kernel, by decide +kernel, by decide +kernel, rfl, Or.inl ⟨rfl, by decide +kernel, by decide +kernel, by decide +kernel⟩⟩
set_option maxRecDepth 1000000 in
theorem mf_12 : mfG 12 := Or.inr ⟨rfl, by decide +kernel, by decide +kernel, by decide +kernel, by decide +kernel, by decide +kernel, by decide +kernel, rfl, Or.inr (Or.inl ⟨rfl, by decide +kernel, by decide +kernel⟩)⟩
set_option maxRecDepth 1000000 in
theorem mf_13 : mfG 13 := Or.inr ⟨rfl, by decide +kernel, by decide +kernel, by decide +kernel, by decide +kernel, by decide +kernel, by decide +kernel, rfl, Or.inl ⟨rfl, by decide +kernel, by decide +kernel, by decide +kernel⟩⟩
set_option maxRecDepth 1000000 in
theorem mf_14 : mfG 14 := Or.inr ⟨rfl, by decide +kernel, by decide +kernel, by decide +kernel, by decide +kernel, by decide +kernel, by decide +kernel, rfl, Or.inl ⟨rfl, by decide +kernel, by decide +kernel, by decide +kernel⟩⟩
set_option maxRecDepth 1000000 in
theorem mf_15 : mfG 15 := Or.inr ⟨rfl, by decide +kernel, by decide +kernel, by decide +kernel, by decide +kernel, by decide +kernel, by decide +kernel, rfl, Or.inr (Or.inl ⟨rfl, by decide +kernel, by decide +kernel⟩)⟩
set_option maxRecDepth 1000000 in
theorem mf_16 : mfG 16 := Or.inr ⟨rfl, by decide +kernel, by decide +kernel, by decide +kernel, by decide +kernel, by decide +kernel, by decide +kernel, rfl, Or.inr (Or.inl ⟨rfl, by decide +kernel, by decide +kernel⟩)⟩
set_option maxRecDepth 1000000 in
theorem mf_17 : mfG 17 := Or.inr ⟨rfl, by decide +kernel, by decide +kernel, by decide +kernel, by decide +kernel, by decide +kernel, by decide +kernel, rfl, Or.inr (Or.inl ⟨rfl, by decide +kernel, by decide +kernel⟩)⟩
set_option maxRecDepth 1000000 in
theorem mf_18 : mfG 18 := Or.inr ⟨rfl, by decide +kernel, by decide +kernel, by decide +kernel, by decide +kernel, by decide +kernel, by decide +kernel, rfl, Or.inr (Or.inl ⟨rfl, by decide +kernel, by decide +kernel⟩)⟩
set_option maxRecDepth 1000000 in
theorem mf_19 : mfG 19 := Or.inr ⟨rfl, by decide +kernel, by decide +kernel, by decide +kernel, by decide +kernel, by decide +kernel, by decide +kernel, rfl, Or.inr (Or.inl ⟨rfl, by decide +kernel, by decide +kernel⟩)⟩
set_option maxRecDepth 1000000 in
theorem mf_20 : mfG 20 := Or.inr ⟨rfl, by decide +kernel, by decide +kernel, by decide +kernel, by decide +kernel, by decide +kernel, by decide +kernel, rfl, Or.inr (Or.inr ⟨rfl, by decide +kernel, by decide +kernel, rfl⟩)⟩
set_option maxRecDepth 1000000 in
theorem mf_21 : mfG 21 := Or.inr ⟨rfl, by decide +kernel, by decide +kernel, by decide +kernel, by decide +kernel, by decide +kernel, by decide +kernel, rfl, Or.inl ⟨rfl, by decide +kernel, by decide +kernel, by decide +kernel⟩⟩
set_option maxRecDepth 1000000 in
theorem mf_22 : mfG 22 := Or.inr ⟨rfl, by decide +kernel, by decide +kernel, by decide +kernel, by decide +kernel, by decide +kernel, by decide +kernel, rfl, Or.inl ⟨rfl, by decide +kernel, by decide +kernel, by decide +kernel⟩⟩
set_option maxRecDepth 1000000 in
theorem mf_23 : mfG 23 := Or.inr ⟨rfl, by decide +kernel, by decide +kernel, by decide +kernel, by decide +kernel, by decide +kernel, by decide +kernel, rfl, Or.inl ⟨rfl, by decide +kernel, by decide +kernel, by decide +kernel⟩⟩
set_option maxRecDepth 1000000 in
theorem mf_24 : mfG 24 := Or.inr ⟨rfl, by decide +kernel, by decide +kernel, by decide +kernel, by decide +kernel, by decide +kernel, by decide +kernel, rfl, Or.inl ⟨rfl, by decide +kernel, by decide +kernel, by decide +kernel⟩⟩
set_option maxRecDepth 1000000 in
theorem mf_25 : mfG 25 := Or.inr ⟨rfl, by decide +kernel, by decide +kernel, by decide +kernel, by decide +kernel, by decide +kernel, by decide +kernel, rfl, Or.inl ⟨rfl, by decide +kernel, by decide +kernel, by decide +kernel⟩⟩
set_option maxRecDepth 1000000 in
theorem mf_26 : mfG 26 := Or.inr ⟨rfl, by decide +kernel, by decide +kernel, by decide +kernel, by decide +kernel, by decide +kernel, by decide +kernel, rfl, Or.inl ⟨rfl, by decide +kernel, by decide +kernel, by decide +kernel⟩⟩
set_option maxRecDepth 1000000 in
theorem mf_27 : mfG 27 := Or.inr ⟨rfl, by decide +kernel, by decide +kernel, by decide +kernel, by decide +kernel, by decide +kernel, by decide +kernel, rfl, Or.inl ⟨rfl, by decide +kernel, by decide +kernel, by decide +kernel⟩⟩
set_option maxRecDepth 1000000 in
theorem mf_28 : mfG 28 := Or.inr ⟨rfl, by decide +kernel, by decide +kernel, by decide +kernel, by decide +kernel, by decide +kernel, by decide +kernel, rfl, Or.inl ⟨rfl, by decide +kernel, by decide +kernel, by decide +kernel⟩⟩
set_option maxRecDepth 1000000 in
theorem mf_29 : mfG 29 := Or.inr ⟨rfl, by decide +kernel, by decide +kernel, by decide +kernel, by decide +kernel, by decide +kernel, by decide +kernel, rfl, Or.inl ⟨rfl, by decide +kernel, by decide +kernel, by decide +kernel⟩⟩
set_option maxRecDepth 1000000 in
theorem mf_30 : mfG 30 := Or.inr ⟨rfl, by decide +kernel, by decide +kernel, by decide +kernel, by decide +kernel, by decide +kernel, by decide +kernel, rfl, Or.inl ⟨rfl, by decide +kernel, by decide +kernel, by decide +kernel⟩⟩
set_option maxRecDepth 1000000 in
theorem mf_31 : mfG 31 := Or.inr ⟨rfl, by decide +kernel, by decide +kernel, by decide +kernel, by decide +kernel, by decide +kernel, by decide +kernel, rfl, Or.inl ⟨rfl, by decide +kernel, by decide +kernel, by decide +kernel⟩⟩
set_option maxRecDepth 1000000 in
theorem mf_32 : mfG 32 := Or.inr ⟨rfl, by decide +kernel, by decide +kernel, by decide +kernel, by decide +kernel, by decide +kernel, by decide +kernel, rfl, Or.inl ⟨rfl, by decide +kernel, by decide +kernel, by decide +kernel⟩⟩
set_option maxRecDepth 1000000 in
theorem mf_33 : mfG 33 := Or.inr ⟨rfl, by decide +kernel, by decide +kernel, by decide +kernel, by decide +kernel, by decide +kernel, by decide +kernel, rfl, Or.inl ⟨rfl, by decide +kernel, by decide +kernel, by decide +kernel⟩⟩
set_option maxRecDepth 1000000 in
theorem mf_34 : mfG 34 := Or.inr ⟨rfl, by decide +kernel, by decide +kernel, by decide +kernel, by decide +kernel, by decide +kernel, by decide +kernel, rfl, Or.inl ⟨rfl, by decide +kernel, by decide +kernel, by decide +kernel⟩⟩
set_option maxRecDepth 1000000 in
theorem mf_35 : mfG 35 := Or.inr ⟨rfl, by decide +kernel, by decide +kernel, by decide +kernel, by decide +kernel, by decide +kernel, by decide +kernel, rfl, Or.inl ⟨rfl, by decide +kernel, by decide +kernel, by decide +kernel⟩⟩
set_option maxRecDepth 1000000 in
theorem mf_36 : mfG 36 := Or.inr ⟨rfl, by decide +kernel, by decide +kernel, by decide +kernel, by decide +kernel, by decide +kernel, by decide +kernel, rfl, Or.inl ⟨rfl, by decide +kernel, by decide +kernel, by decide +kernel⟩⟩
set_option maxRecDepth 1000000 in
theorem mf_37 : mfG 37 := Or.inr ⟨rfl, by decide +kernel, by decide +kernel, by decide +kernel, by decide +kernel, by decide +kernel, by decide +kernel, rfl, Or.inl ⟨rfl, by decide +kernel, by decide +kernel, by decide +kernel⟩⟩
set_option maxRecDepth 1000000 in
theorem mf_38 : mfG 38 := Or.inr ⟨rfl, by decide +kernel, by decide +kernel, by decide +kernel, by decide +kernel, by decide +kernel, by decide +kernel, rfl, Or.inl ⟨rfl, by decide +kernel, by decide +kernel, by decide +kernel⟩⟩
set_option maxRecDepth 1000000 in
theorem mf_39 : mfG 39 := Or.inr ⟨rfl, by decide +kernel, by decide +kernel, by decide +kernel, by decide +kernel, by decide +kernel, by decide +kernel, rfl, Or.inl ⟨rfl, by decide +kernel, by decide +kernel, by decide +kernel⟩⟩
set_option maxRecDepth 1000000 in
theorem mf_40 : mfG 40 := Or.inr ⟨rfl, by decide +kernel, by decide +kernel, by decide +kernel, by decide +kernel, by decide +kernel, by decide +kernel, rfl, Or.inl ⟨rfl, by decide +kernel, by decide +kernel, by decide +kernel⟩⟩
set_option maxRecDepth 1000000 in
theorem mf_41 : mfG 41 := Or.inr ⟨rfl, by decide +kernel, by decide +kernel, by decide +kernel, by decide +kernel, by decide +kernel, by decide +kernel, rfl, Or.inl ⟨rfl, by decide +kernel, by decide +kernel, by decide +kernel⟩⟩
set_option maxRecDepth 1000000 in
theorem mf_42 : mfG 42 := Or.inr ⟨rfl, by decide +kernel, by decide +kernel, by decide +kernel, by decide +kernel, by decide +kernel, by decide +kernel, rfl, Or.inl ⟨rfl, by decide +kernel, by decide +kernel, by decide +kernel⟩⟩
set_option maxRecDepth 1000000 in
theorem mf_43 : mfG 43 := Or.inr ⟨rfl, by decide +kernel, by decide +kernel, by decide +kernel, by decide +kernel, by decide +kernel, by decide +kernel, rfl, Or.inl ⟨rfl, by decide +kernel, by decide +kernel, by decide +kernel⟩⟩
set_option maxRecDepth 1000000 in
theorem mf_44 : mfG 44 := Or.inr ⟨rfl, by decide +kernel, by decide +kernel, by decide +kernel, by decide +kernel, by decide +kernel, by decide +kernel, rfl, Or.inl ⟨rfl, by decide +kernel, by decide +kernel, by decide +kernel⟩⟩
set_option maxRecDepth 1000000 in
theorem mf_45 : mfG 45 := Or.inr ⟨rfl, by decide +kernel, by decide +kernel, by decide +kernel, by decide +kernel, by decide +kernel, by decide +kernel, rfl, Or.inl ⟨rfl, by decide +kernel, by decide +kernel, by decide +kernel⟩⟩
set_option maxRecDepth 1000000 in
theorem mf_46 : mfG 46 := Or.inr ⟨rfl, by decide +kernel, by decide +kernel, by decide +kernel, by decide +kernel, by decide +kernel, by decide +kernel, rfl, Or.inl ⟨rfl, by decide +kernel, by decide +kernel, by decide +kernel⟩⟩
set_option maxRecDepth 1000000 in
theorem mf_47 : mfG 47 := Or.inr ⟨rfl, by decide +kernel, by decide +kernel, by decide +kernel, by decide +kernel, by decide +kernel, by decide +kernel, rfl, Or.inl ⟨rfl, by decide +kernel, by decide +kernel, by decide +kernel⟩⟩
set_option maxRecDepth 1000000 in
theorem mf_48 : mfG 48 := Or.inr ⟨rfl, by decide +kernel, by decide +kernel, by decide +kernel, by decide +kernel, by decide +kernel, by decide +kernel, rfl, Or.inl ⟨rfl, by decide +kernel, by decide +kernel, by decide +kernel⟩⟩
set_option maxRecDepth 1000000 in
theorem mf_49 : mfG 49 := Or.inr ⟨rfl, by decide +kernel, by decide +kernel, by decide +kernel, by decide +kernel, by decide +kernel, by decide +kernel, rfl, Or.inl ⟨rfl, by decide +kernel, by decide +kernel, by decide +kernel⟩⟩
set_option maxRecDepth 1000000 in
theorem mf_50 : mfG 50 := Or.inr ⟨rfl, by decide +kernel, by decide +kernel, by decide +kernel, by decide +kernel, by decide +kernel, by decide +kernel, rfl, Or.inr (Or.inl ⟨rfl, by decide +kernel, by decide +kernel⟩)⟩
set_option maxRecDepth 1000000 in
theorem mf_51 : mfG 51 := Or.inr ⟨rfl, by decide +kernel, by decide +kernel, by decide +kernel, by decide +kernel, by decide +kernel, by decide +kernel, rfl, Or.inl ⟨rfl, by decide +kernel, by decide +kernel, by decide +kernel⟩⟩
set_option maxRecDepth 1000000 in
theorem mf_52 : mfG 52 := Or.inr ⟨rfl, by decide +kernel, by decide +kernel, by decide +kernel, by decide +kernel, by decide +kernel, by decide +kernel, rfl, Or.inl ⟨rfl, by decide +kernel, by decide +kernel, by decide +kernel⟩⟩
set_option maxRecDepth 1000000 in
theorem mf_53 : mfG 53 := Or.inr ⟨rfl, by decide +kernel, by decide +kernel, by decide +kernel, by decide +kernel, by decide +kernel, by decide +kernel, rfl, Or.inl ⟨rfl, by decide +kernel, by decide +kernel, by decide +kernel⟩⟩
set_option maxRecDepth 1000000 in
theorem mf_54 : mfG 54 := Or.inr ⟨rfl, by decide +kernel, by decide +kernel, by decide +kernel, by decide +kernel, by decide +kernel, by decide +kernel, rfl, Or.inl ⟨rfl, by decide +kernel, by decide +kernel, by decide +kernel⟩⟩
set_option maxRecDepth 1000000 in
theorem mf_55 : mfG 55 := Or.inr ⟨rfl, by decide +kernel, by decide +kernel, by decide +kernel, by decide +kernel, by decide +kernel, by decide +kernel, rfl, Or.inl ⟨rfl, by decide +kernel, by decide +kernel, by decide +kernel⟩⟩
set_option maxRecDepth 1000000 in
theorem mf_56 : mfG 56 := Or.inr ⟨rfl, by decide +kernel, by decide +kernel, by decide +kernel, by decide +kernel, by decide +kernel, by decide +kernel, rfl, Or.inl ⟨rfl, by decide +kernel, by decide +kernel, by decide +kernel⟩⟩
set_option maxRecDepth 1000000 in
theorem mf_57 : mfG 57 := Or.inr ⟨rfl, by decide +kernel, by decide +kernel, by decide +kernel, by decide +kernel, by decide +kernel, by decide +kernel, rfl, Or.inr (Or.inr ⟨rfl, by decide +kernel, by decide +kernel, rfl⟩)⟩
set_option maxRecDepth 1000000 in
theorem mf_58 : mfG 58 := Or.inr ⟨rfl, by decide +kernel, by decide +kernel, by decide +kernel, by decide +kernel, by decide +kernel, by decide +kernel, rfl, Or.inl ⟨rfl, by decide +kernel, by decide +kernel, by decide +kernel⟩⟩
set_option maxRecDepth 1000000 in
theorem mf_59 : mfG 59 := Or.inr ⟨rfl, by decide +kernel, by decide +kernel, by decide +kernel, by decide +kernel, by decide +kernel, by decide +kernel, rfl, Or.inl ⟨rfl, by decide +kernel, by decide +kernel, by decide +kernel⟩⟩
set_option maxRecDepth 1000000 in
theorem mf_60 : mfG 60 := Or.inr ⟨rfl, by decide +kernel, by decide +kernel, by decide +kernel, by decide +kernel, by decide +kernel, by decide +kernel, rfl, Or.inl ⟨rfl, by decide +kernel, by decide +kernel, by decide +kernel⟩⟩
set_option maxRecDepth 1000000 in
theorem mf_61 : mfG 61 := Or.inr ⟨rfl, by decide +kernel, by decide +kernel, by decide +kernel, by decide +kernel, by decide +kernel, by decide +kernel, rfl, Or.inl ⟨rfl, by decide +kernel, by decide +kernel, by decide +kernel⟩⟩
set_option maxRecDepth 1000000 in
theorem mf_62 : mfG 62 := Or.inr ⟨rfl, by decide +kernel, by decide +kernel, by decide +kernel, by decide +kernel, by decide +kernel, by decide +kernel, rfl, Or.inl ⟨rfl, by decide +kernel, by decide +kernel, by decide +kernel⟩⟩
set_option maxRecDepth 1000000 in
theorem mf_63 : mfG 63 := Or.inr ⟨rfl, by decide +kernel, by decide +kernel, by decide +kernel, by decide +kernel, by decide +kernel, by decide +kernel, rfl, Or.inl ⟨rfl, by decide +kernel, by decide +kernel, by decide +kernel⟩⟩
set_option maxRecDepth 1000000 in
theorem mf_64 : mfG 64 := Or.inr ⟨rfl, by decide +kernel, by decide +kernel, by decide +kernel, by decide +kernel, by decide +kernel, by decide +kernel, rfl, Or.inl ⟨rfl, by decide +kernel, by decide +kernel, by decide +kernel⟩⟩
set_option maxRecDepth 1000000 in
theorem mf_65 : mfG 65 := Or.inr ⟨rfl, by decide +kernel, by decide +kernel, by decide +kernel, by decide +kernel, by decide +kernel, by decide +kernel, rfl, Or.inl ⟨rfl, by decide +kernel, by decide +kernel, by decide +kernel⟩⟩
set_option maxRecDepth 1000000 in
theorem mf_66 : mfG 66 := Or.inr ⟨rfl, by decide +kernel, by decide +kernel, by decide +kernel, by decide +kernel, by decide +kernel, by decide +kernel, rfl, Or.inl ⟨rfl, by decide +kernel, by decide +kernel, by decide +kernel⟩⟩
set_option maxRecDepth 1000000 in
theorem mf_67 : mfG 67 := Or.inr ⟨rfl, by decide +kernel, by decide +kernel, by decide +kernel, by decide +kernel, by decide +kernel, by decide +kernel, rfl, Or.inl ⟨rfl, by decide +kernel, by decide +kernel, by decide +kernel⟩⟩
set_option maxRecDepth 1000000 in
theorem mf_68 : mfG 68 := Or.inr ⟨rfl, by decide +kernel, by decide +kernel, by decide +kernel, by decide +kernel, by decide +kernel, by decide +kernel, rfl, Or.inl ⟨rfl, by decide +kernel, by decide +kernel, by decide +kernel⟩⟩
set_option maxRecDepth 1000000 in
theorem mf_69 : mfG 69 := Or.inr ⟨rfl, by decide +kernel, by decide +kernel, by decide +kernel, by decide +kernel, by decide +kernel, by decide +kernel, rfl, Or.inl ⟨rfl, by decide +kernel, by decide +kernel, by decide +kernel⟩⟩
set_option maxRecDepth 1000000 in
theorem mf_70 : mfG 70 := Or.inr ⟨rfl, by decide +kernel, by decide +kernel, by decide +kernel, by decide +kernel, by decide +kernel, by decide +kernel, rfl, Or.inl ⟨rfl, by decide +kernel, by decide +kernel, by decide +kernel⟩⟩
set_option maxRecDepth 1000000 in
theorem mf_71 : mfG 71 := Or.inr ⟨rfl, by decide +kernel, by decide +kernel, by decide +kernel, by decide +kernel, by decide +kernel, by decide +kernel, rfl, Or.inl ⟨rfl, by decide +kernel, by decide +kernel, by decide +kernel⟩⟩
set_option maxRecDepth 1000000 in
theorem mf_72 : mfG 72 := Or.inr ⟨rfl, by decide +kernel, by decide +kernel, by decide +kernel, by decide +kernel, by decide +kernel, by decide +kernel, rfl, Or.inr (Or.inr ⟨rfl, by decide +kernel, by decide +kernel, rfl⟩)⟩
set_option maxRecDepth 1000000 in
theorem mf_73 : mfG 73 := Or.inr ⟨rfl, by decide +kernel, by decide +kernel, by decide +kernel, by decide +kernel, by decide +kernel, by decide +kernel, rfl, Or.inl ⟨rfl, by decide +kernel, by decide +kernel, by decide +kernel⟩⟩
set_option maxRecDepth 1000000 in
theorem mf_74 : mfG 74 := Or.inr ⟨rfl, by decide +kernel, by decide +kernel, by decide +kernel, by decide +kernel, by decide +kernel, by decide +kernel, rfl, Or.inl ⟨rfl, by decide +kernel, by decide +kernel, by decide +kernel⟩⟩
set_option maxRecDepth 1000000 in
theorem mf_75 : mfG 75 := Or.inr ⟨rfl, by decide +kernel, by decide +kernel, by decide +kernel, by decide +kernel, by decide +kernel, by decide +kernel, rfl, Or.inl ⟨rfl, by decide +kernel, by decide +kernel, by decide +kernel⟩⟩
set_option maxRecDepth 1000000 in
theorem mf_76 : mfG 76 := Or.inr ⟨rfl, by decide +kernel, by decide +kernel, by decide +kernel, by decide +kernel, by decide +kernel, by decide +kernel, rfl, Or.inl ⟨rfl, by decide +kernel, by decide +kernel, by decide +kernel⟩⟩
set_option maxRecDepth 1000000 in
theorem mf_77 : mfG 77 := Or.inr ⟨rfl, by decide +kernel, by decide +kernel, by decide +kernel, by decide +kernel, by decide +kernel, by decide +kernel, rfl, Or.inl ⟨rfl, by decide +kernel, by decide +kernel, by decide +kernel⟩⟩
set_option maxRecDepth 1000000 in
theorem mf_78 : mfG 78 := Or.inr ⟨rfl, by decide +kernel, by decide +kernel, by decide +kernel, by decide +kernel, by decide +kernel, by decide +kernel, rfl, Or.inl ⟨rfl, by decide +kernel, by decide +kernel, by decide +kernel⟩⟩
set_option maxRecDepth 1000000 in
theorem mf_79 : mfG 79 := Or.inr ⟨rfl, by decide +kernel, by decide +kernel, by decide +kernel, by decide +kernel, by decide +kernel, by decide +kernel, rfl, Or.inl ⟨rfl, by decide +kernel, by decide +kernel, by decide +kernel⟩⟩
set_option maxRecDepth 1000000 in
theorem mf_80 : mfG 80 := Or.inr ⟨rfl, by decide +kernel, by decide +kernel, by decide +kernel, by decide +kernel, by decide +kernel, by decide +kernel, rfl, Or.inl ⟨rfl, by decide +kernel, by decide +kernel, by decide +kernel⟩⟩
set_option maxRecDepth 1000000 in
theorem mf_81 : mfG 81 := Or.inr ⟨rfl, by decide +kernel, by decide +kernel, by decide +kernel, by decide +kernel, by decide +kernel, by decide +kernel, rfl, Or.inl ⟨rfl, by decide +kernel, by decide +kernel, by decide +kernel⟩⟩
set_option maxRecDepth 1000000 in
theorem mf_82 : mfG 82 := Or.inr ⟨rfl, by decide +kernel, by decide +kernel, by decide +kernel, by decide +kernel, by decide +kernel, by decide +kernel, rfl, Or.inl ⟨rfl, by decide +kernel, by decide +kernel, by decide +kernel⟩⟩
set_option maxRecDepth 1000000 in
theorem mf_83 : mfG 83 := Or.inr ⟨rfl, by decide +kernel, by decide +kernel, by decide +kernel, by decide +kernel, by decide +kernel, by decide +kernel, rfl, Or.inl ⟨rfl, by decide +kernel, by decide +kernel, by decide +kernel⟩⟩
set_option maxRecDepth 1000000 in
theorem mf_84 : mfG 84 := Or.inr ⟨rfl, by decide +kernel, by decide +kernel, by decide +kernel, by decide +kernel, by decide +kernel, by decide +kernel, rfl, Or.inr (Or.inr ⟨rfl, by decide +kernel, by decide +kernel, rfl⟩)⟩
set_option maxRecDepth 1000000 in
theorem mf_85 : mfG 85 := Or.inr ⟨rfl, by decide +kernel, by decide +kernel, by decide +kernel, by decide +kernel, by decide +kernel, by decide +kernel, rfl, Or.inr (Or.inl ⟨rfl, by decide +kernel, by decide +kernel⟩)⟩
set_option maxRecDepth 1000000 in
theorem mf_86 : mfG 86 := Or.inr ⟨rfl, by decide +kernel, by decide +kernel, by decide +kernel, by decide +kernel, by decide +kernel, by decide +kernel, rfl, Or.inr (Or.inl ⟨rfl, by decide +kernel, by decide +kernel⟩)⟩
set_option maxRecDepth 1000000 in
theorem mf_87 : mfG 87 := Or.inr ⟨rfl, by decide +kernel, by decide +kernel, by decide +kernel, by decide +kernel, by decide +kernel, by decide +kernel, rfl, Or.inl ⟨rfl, by decide +kernel, by decide +kernel, by decide +kernel⟩⟩
set_option maxRecDepth 1000000 in
theorem mf_88 : mfG 88 := Or.inr ⟨rfl, by decide +kernel, by decide +kernel, by decide +kernel, by decide +kernel, by decide +kernel, by decide +kernel, rfl, Or.inl ⟨rfl, by decide +kernel, by decide +kernel, by decide +kernel⟩⟩
set_option maxRecDepth 1000000 in
theorem mf_89 : mfG 89 := Or.inr ⟨rfl, by decide +kernel, by decide +kernel, by decide +kernel, by decide +kernel, by decide +kernel, by decide +kernel, rfl, Or.inl ⟨rfl, by decide +kernel, by decide +kernel, by decide +kernel⟩⟩
set_option maxRecDepth 1000000 in
theorem mf_90 : mfG 90 := Or.inr ⟨rfl, by decide +kernel, by decide +kernel, by decide +kernel, by decide +kernel, by decide +kernel, by decide +kernel, rfl, Or.inl ⟨rfl, by decide +kernel, by decide +kernel, by decide +kernel⟩⟩
set_option maxRecDepth 1000000 in
theorem mf_91 : mfG 91 := Or.inr ⟨rfl, by decide +kernel, by decide +kernel, by decide +kernel, by decide +kernel, by decide +kernel, by decide +kernel, rfl, Or.inl ⟨rfl, by decide +kernel, by decide +kernel, by decide +kernel⟩⟩
set_option maxRecDepth 1000000 in
theorem mf_92 : mfG 92 := Or.inr ⟨rfl, by decide +kernel, by decide +kernel, by decide +kernel, by decide +kernel, by decide +kernel, by decide +kernel, rfl, Or.inl ⟨rfl, by decide +kernel, by decide +kernel, by decide +kernel⟩⟩
set_option maxRecDepth 1000000 in
theorem mf_93 : mfG 93 := Or.inr ⟨rfl, by decide +kernel, by decide +kernel, by decide +kernel, by decide +kernel, by decide +kernel, by decide +kernel, rfl, Or.inl ⟨rfl, by decide +kernel, by decide +kernel, by decide +kernel⟩⟩
set_option maxRecDepth 1000000 in
theorem mf_94 : mfG 94 := Or.inr ⟨rfl, by decide +kernel, by decide +kernel, by decide +kernel, by decide +kernel, by decide +kernel, by decide +kernel, rfl, Or.inl ⟨rfl, by decide +kernel, by decide +kernel, by decide +kernel⟩⟩
set_option maxRecDepth 1000000 in
theorem mf_95 : mfG 95 := Or.inr ⟨rfl, by decide +kernel, by decide +kernel, by decide +kernel, by decide +kernel, by decide +kernel, by decide +kernel, rfl, Or.inr (Or.inr ⟨rfl, by decide +kernel, by decide +kernel, rfl⟩)⟩
set_option maxRecDepth 1000000 in
theorem mf_96 : mfG 96 := Or.inr ⟨rfl, by decide +kernel, by decide +kernel, by decide +kernel, by decide +kernel, by decide +kernel, by decide +kernel, rfl, Or.inl ⟨rfl, by decide +kernel, by decide +kernel, by decide +kernel⟩⟩
set_option maxRecDepth 1000000 in
theorem mf_97 : mfG 97 := Or.inr ⟨rfl, by decide +kernel, by decide +kernel, by decide +kernel, by decide +kernel, by decide +kernel, by decide +kernel, rfl, Or.inl ⟨rfl, by decide +kernel, by decide +kernel, by decide +kernel⟩⟩
set_option maxRecDepth 1000000 in
theorem mf_98 : mfG 98 := Or.inr ⟨rfl, by decide +kernel, by decide +kernel, by decide +kernel, by decide +kernel, by decide +kernel, by decide +kernel, rfl, Or.inl ⟨rfl, by decide +kernel, by decide +kernel, by decide +kernel⟩⟩
set_option maxRecDepth 1000000 in
theorem mf_99 : mfG 99 := Or.inr ⟨rfl, by decide +kernel, by decide +kernel, by decide +kernel, by decide +kernel, by decide +kernel, by decide +kernel, rfl, Or.inl ⟨rfl, by decide +kernel, by decide +kernel, by decide +kernel⟩⟩
set_option maxRecDepth 1000000 in
theorem mf_100 : mfG 100 := Or.inr ⟨rfl, by decide +kernel, by decide +kernel, by decide +kernel, by decide +kernel, by decide +kernel, by decide +kernel, rfl, Or.inl ⟨rfl, by decide +kernel, by decide +kernel, by decide +kernel⟩⟩
set_option maxRecDepth 1000000 in
theorem mf_101 : mfG 101 := Or.inr ⟨rfl, by decide +kernel, by decide +kernel, by decide +kernel, by decide +kernel, by decide +kernel, by decide +kernel, rfl, Or.inl ⟨rfl, by decide +kernel, by decide +kernel, by decide +kernel⟩⟩
set_option maxRecDepth 1000000 in
theorem mf_102 : mfG 102 := Or.inr ⟨rfl, by decide +kernel, by decide +kernel, by decide +kernel, by decide +kernel, by decide +kernel, by decide +kernel, rfl, Or.inl ⟨rfl, by decide +kernel, by decide +kernel, by decide +kernel⟩⟩
set_option maxRecDepth 1000000 in
theorem mf_103 : mfG 103 := Or.inr ⟨rfl, by decide +kernel, by decide +kernel, by decide +kernel, by decide +kernel, by decide +kernel, by decide +kernel, rfl, Or.inl ⟨rfl, by decide +kernel, by decide +kernel, by decide +kernel⟩⟩
set_option maxRecDepth 1000000 in
theorem mf_104 : mfG 104 := Or.inr ⟨rfl, by decide +kernel, by decide +kernel, by decide +kernel, by decide +kernel, by decide +kernel, by decide +kernel, rfl, Or.inl ⟨rfl, by decide +kernel, by decide +kernel, by decide +kernel⟩⟩
set_option maxRecDepth 1000000 in
theorem mf_105 : mfG 105 := Or.inr ⟨rfl, by decide +kernel, by decide +kernel, by decide +kernel, by decide +kernel, by decide +kernel, by decide +kernel, rfl, Or.inl ⟨rfl, by decide +kernel, by decide +kernel, by decide +kernel⟩⟩
set_option maxRecDepth 1000000 in
theorem mf_106 : mfG 106 := Or.inr ⟨rfl, by decide +kernel, by decide +kernel, by decide +kernel, by decide +kernel, by decide +kernel, by decide +kernel, rfl, Or.inl ⟨rfl, by decide +kernel, by decide +kernel, by decide +kernel⟩⟩
set_option maxRecDepth 1000000 in
theorem mf_107 : mfG 107 := Or.inr ⟨rfl, by decide +kernel, by decide +kernel, by decide +kernel, by decide +kernel, by decide +kernel, by decide +kernel, rfl, Or.inl ⟨rfl, by decide +kernel, by decide +kernel, by decide +kernel⟩⟩
set_option maxRecDepth 1000000 in
theorem mf_108 : mfG 108 := Or.inr ⟨rfl, by decide +kernel, by decide +kernel, by decide +kernel, by decide +kernel, by decide +kernel, by decide +kernel, rfl, Or.inl ⟨rfl, by decide +kernel, by decide +kernel, by decide +kernel⟩⟩
set_option maxRecDepth 1000000 in
theorem mf_109 : mfG 109 := Or.inr ⟨rfl, by decide +kernel, by decide +kernel, by decide +kernel, by decide +kernel, by decide +kernel, by decide +kernel, rfl, Or.inl ⟨rfl, by decide +kernel, by decide +kernel, by decide +kernel⟩⟩
set_option maxRecDepth 1000000 in
theorem mf_110 : mfG 110 := Or.inr ⟨rfl, by decide +kernel, by decide +kernel, by decide +kernel, by decide +kernel, by decide +kernel, by decide +kernel, rfl, Or.inl ⟨rfl, by decide +kernel, by decide +kernel, by decide +kernel⟩⟩
set_option maxRecDepth 1000000 in
theorem mf_111 : mfG 111 := Or.inr ⟨rfl, by decide +kernel, by decide +kernel, by decide +kernel, by decide +kernel, by decide +kernel, by decide +kernel, rfl, Or.inr (Or.inl ⟨rfl, by decide +kernel, by decide +kernel⟩)⟩
set_option maxRecDepth 1000000 in
theorem mf_112 : mfG 112 := Or.inr ⟨rfl, by decide +kernel, by decide +kernel, by decide +kernel, by decide +kernel, by decide +kernel, by decide +kernel, rfl, Or.inl ⟨rfl, by decide +kernel, by decide +kernel, by decide +kernel⟩⟩
set_option maxRecDepth 1000000 in
theorem mf_113 : mfG 113 := Or.inr ⟨rfl, by decide +kernel, by decide +kernel, by decide +kernel, by decide +kernel, by decide +kernel, by decide +kernel, rfl, Or.inr (Or.inr ⟨rfl, by decide +kernel, by decide +kernel, rfl⟩)⟩
set_option maxRecDepth 1000000 in
theorem mf_114 : mfG 114 := Or.inr ⟨rfl, by decide +kernel, by decide +kernel, by decide +kernel, by decide +kernel, by decide +kernel, by decide +kernel, rfl, Or.inl ⟨rfl, by decide +kernel, by decide +kernel, by decide +kernel⟩⟩
set_option maxRecDepth 1000000 in
theorem mf_115 : mfG 115 := Or.inr ⟨rfl, by decide +kernel, by decide +kernel, by decide +kernel, by decide +kernel, by decide +kernel, by decide +kernel, rfl, Or.inl ⟨rfl, by decide +kernel, by decide +kernel, by decide +kernel⟩⟩
set_option maxRecDepth 1000000 in
theorem mf_116 : mfG 116 := Or.inr ⟨rfl, by decide +kernel, by decide +kernel, by decide +kernel, by decide +kernel, by decide +kernel, by decide +kernel, rfl, Or.inl ⟨rfl, by decide +kernel, by decide +kernel, by decide +kernel⟩⟩
set_option maxRecDepth 1000000 in
theorem mf_117 : mfG 117 := Or.inr ⟨rfl, by decide +kernel, by decide +kernel, by decide +kernel, by decide +kernel, by decide +kernel, by decide +kernel, rfl, Or.inl ⟨rfl, by decide +kernel, by decide +kernel, by decide +kernel⟩⟩
set_option maxRecDepth 1000000 in
theorem mf_118 : mfG 118 := Or.inr ⟨rfl, by decide +kernel, by decide +kernel, by decide +kernel, by decide +kernel, by decide +kernel, by decide +kernel, rfl, Or.inl ⟨rfl, by decide +kernel, by decide +kernel, by decide +kernel⟩⟩
set_option maxRecDepth 1000000 in
theorem mf_119 : mfG 119 := Or.inr ⟨rfl, by decide +kernel, by decide +kernel, by decide +kernel, by decide +kernel, by decide +kernel, by decide +kernel, rfl, Or.inl ⟨rfl, by decide +kernel, by decide +kernel, by decide +kernel⟩⟩
set_option maxRecDepth 1000000 in
theorem mf_120 : mfG 120 := Or.inr ⟨rfl, by decide +kernel, by decide +kernel, by decide +kernel, by decide +kernel, by decide +kernel, by decide +kernel, rfl, Or.inr (Or.inr ⟨rfl, by decide +kernel, by decide +kernel, rfl⟩)⟩
set_option maxRecDepth 1000000 in
theorem mf_121 : mfG 121 := Or.inr ⟨rfl, by decide +kernel, by decide +kernel, by decide +kernel, by decide +kernel, by decide +kernel, by decide +kernel, rfl, Or.inl ⟨rfl, by decide +kernel, by decide +kernel, by decide +kernel⟩⟩
set_option maxRecDepth 1000000 in
theorem mf_122 : mfG 122 := Or.inr ⟨rfl, by decide +kernel, by decide +kernel, by decide +kernel, by decide +kernel, by decide +kernel, by decide +kernel, rfl, Or.inr (Or.inl ⟨rfl, by decide +kernel, by decide +kernel⟩)⟩
set_option maxRecDepth 1000000 in
theorem mf_123 : mfG 123 := Or.inr ⟨rfl, by decide +kernel, by decide +kernel, by decide +kernel, by decide +kernel, by decide +kernel, by decide +kernel, rfl, Or.inr (Or.inl ⟨rfl, by decide +kernel, by decide +kernel⟩)⟩
set_option maxRecDepth 1000000 in
theorem mf_124 : mfG 124 := Or.inr ⟨rfl, by decide +kernel, by decide +kernel, by decide +kernel, by decide +kernel, by decide +kernel, by decide +kernel, rfl, Or.inl ⟨rfl, by decide +kernel, by decide +kernel, by decide +kernel⟩⟩
set_option maxRecDepth 1000000 in
theorem mf_125 : mfG 125 := Or.inr ⟨rfl, by decide +kernel, by decide +kernel, by decide +kernel, by decide +kernel, by decide +kernel, by decide +kernel, rfl, Or.inl ⟨rfl, by decide +kernel, by decide +kernel, by decide +kernel⟩⟩
set_option maxRecDepth 1000000 in
theorem mf_126 : mfG 126 := Or.inr ⟨rfl, by decide +kernel, by decide +kernel, by decide +kernel, by decide +kernel, by decide +kernel, by decide +kernel, rfl, Or.inl ⟨rfl, by decide +kernel, by decide +kernel, by decide +kernel⟩⟩
set_option maxRecDepth 1000000 in
theorem mf_127 : mfG 127 := Or.inr ⟨rfl, by decide +kernel, by decide +kernel, by decide +kernel, by decide +kernel, by decide +kernel, by decide +kernel, rfl, Or.inl ⟨rfl, by decide +kernel, by decide +kernel, by decide +kernel⟩⟩
set_option maxRecDepth 1000000 in
theorem mf_128 : mfG 128 := Or.inr ⟨rfl, by decide +kernel, by decide +kernel, by decide +kernel, by decide +kernel, by decide +kernel, by decide +kernel, rfl, Or.inl ⟨rfl, by decide +kernel, by decide +kernel, by decide +kernel⟩⟩
set_option maxRecDepth 1000000 in
theorem mf_129 : mfG 129 := Or.inr ⟨rfl, by decide +kernel, by decide +kernel, by decide +kernel, by decide +kernel, by decide +kernel, by decide +kernel, rfl, Or.inl ⟨rfl, by decide +kernel, by decide +kernel, by decide +kernel⟩⟩
set_option maxRecDepth 1000000 in
theorem mf_130 : mfG 130 := Or.inr ⟨rfl, by decide +kernel, by decide +kernel, by decide +kernel, by decide +kernel, by decide +kernel, by decide +kernel, rfl, Or.inl ⟨rfl, by decide +kernel, by decide +kernel, by decide +kernel⟩⟩
set_option maxRecDepth 1000000 in
theorem mf_131 : mfG 131 := Or.inr ⟨rfl, by decide +kernel, by decide +kernel, by decide +kernel, by decide +kernel, by decide +kernel, by decide +kernel, rfl, Or.inl ⟨rfl, by decide +kernel, by decide +kernel, by decide +kernel⟩⟩
set_option maxRecDepth 1000000 in
theorem mf_132 : mfG 132 := Or.inr ⟨rfl, by decide +kernel, by decide +kernel, by decide +kernel, by decide +kernel, by decide +kernel, by decide +kernel, rfl, Or.inr (Or.inr ⟨rfl, by decide +kernel, by decide +kernel, rfl⟩)⟩
set_option maxRecDepth 1000000 in
theorem mf_133 : mfG 133 := Or.inr ⟨rfl, by decide +kernel, by decide +kernel, by decide +kernel, by decide +kernel, by decide +kernel, by decide +kernel, rfl, Or.inl ⟨rfl, by decide +kernel, by decide +kernel, by decide +kernel⟩⟩
set_option maxRecDepth 1000000 in
theorem mf_134 : mfG 134 := Or.inr ⟨rfl, by decide +kernel, by decide +kernel, by decide +kernel, by decide +kernel, by decide +kernel, by decide +kernel, rfl, Or.inl ⟨rfl, by decide +kernel, by decide +kernel, by decide +kernel⟩⟩
set_option maxRecDepth 1000000 in
theorem mf_135 : mfG 135 := Or.inr ⟨rfl, by decide +kernel, by decide +kernel, by decide +kernel, by decide +kernel, by decide +kernel, by decide +kernel, rfl, Or.inl ⟨rfl, by decide +kernel, by decide +kernel, by decide +kernel⟩⟩
set_option maxRecDepth 1000000 in
theorem mf_136 : mfG 136 := Or.inr ⟨rfl, by decide +kernel, by decide +kernel, by decide +kernel, by decide +kernel, by decide +kernel, by decide +kernel, rfl, Or.inl ⟨rfl, by decide +kernel, by decide +kernel, by decide +kernel⟩⟩
set_option maxRecDepth 1000000 in
theorem mf_137 : mfG 137 := Or.inr ⟨rfl, by decide +kernel, by decide +kernel, by decide +kernel, by decide +kernel, by decide +kernel, by decide +kernel, rfl, Or.inl ⟨rfl, by decide +kernel, by decide +kernel, by decide +kernel⟩⟩
set_option maxRecDepth 1000000 in
theorem mf_138 : mfG 138 := Or.inr ⟨rfl, by decide +kernel, by decide +kernel, by decide +kernel, by decide +kernel, by decide +kernel, by decide +kernel, rfl, Or.inl ⟨rfl, by decide +kernel, by decide +kernel, by decide +kernel⟩⟩
set_option maxRecDepth 1000000 in
theorem mf_139 : mfG 139 := Or.inr ⟨rfl, by decide +kernel, by decide +kernel, by decide +kernel, by decide +kernel, by decide +kernel, by decide +kernel, rfl, Or.inl ⟨rfl, by decide +kernel, by decide +kernel, by decide +kernel⟩⟩
set_option maxRecDepth 1000000 in
theorem mf_140 : mfG 140 := Or.inr ⟨rfl, by decide +kernel, by decide +kernel, by decide +kernel, by decide +kernel, by decide +kernel, by decide +kernel, rfl, Or.inl ⟨rfl, by decide +kernel, by decide +kernel, by decide +kernel⟩⟩
set_option maxRecDepth 1000000 in
theorem mf_141 : mfG 141 := Or.inr ⟨rfl, by decide +kernel, by decide +kernel, by decide +kernel, by decide +kernel, by decide +kernel, by decide +kernel, rfl, Or.inl ⟨rfl, by decide +kernel, by decide +kernel, by decide +kernel⟩⟩
set_option maxRecDepth 1000000 in
theorem mf_142 : mfG 142 := Or.inr ⟨rfl, by decide +kernel, by decide +kernel, by decide +kernel, by decide +kernel, by decide +kernel, by decide +kernel, rfl, Or.inl ⟨rfl, by decide +kernel, by decide +kernel, by decide +kernel⟩⟩
set_option maxRecDepth 1000000 in
theorem mf_143 : mfG 143 := Or.inr ⟨rfl, by decide +kernel, by decide +kernel, by decide +kernel, by decide +kernel, by decide +kernel, by decide +kernel, rfl, Or.inr (Or.inr ⟨rfl, by decide +kernel, by decide +kernel, rfl⟩)⟩
set_option maxRecDepth 1000000 in
theorem mf_144 : mfG 144 := Or.inr ⟨rfl, by decide +kernel, by decide +kernel, by decide +kernel, by decide +kernel, by decide +kernel, by decide +kernel, rfl, Or.inl ⟨rfl, by decide +kernel, by decide +kernel, by decide +kernel⟩⟩
set_option maxRecDepth 1000000 in
theorem mf_145 : mfG 145 := Or.inr ⟨rfl, by decide +kernel, by decide +kernel, by decide +kernel, by decide +kernel, by decide +kernel, by decide +kernel, rfl, Or.inl ⟨rfl, by decide +kernel, by decide +kernel, by decide +kernel⟩⟩
set_option maxRecDepth 1000000 in
theorem mf_146 : mfG 146 := Or.inr ⟨rfl, by decide +kernel, by decide +kernel, by decide +kernel, by decide +kernel, by decide +kernel, by decide +kernel, rfl, Or.inl ⟨rfl, by decide +kernel, by decide +kernel, by decide +kernel⟩⟩
set_option maxRecDepth 1000000 in
theorem mf_147 : mfG 147 := Or.inr ⟨rfl, by decide +kernel, by decide +kernel, by decide +kernel, by decide +kernel, by decide +kernel, by decide +kernel, rfl, Or.inl ⟨rfl, by decide +kernel, by decide +kernel, by decide +kernel⟩⟩
set_option maxRecDepth 1000000 in
theorem mf_148 : mfG 148 := Or.inr ⟨rfl, by decide +kernel, by decide +kernel, by decide +kernel, by decide +kernel, by decide +kernel, by decide +kernel, rfl, Or.inl ⟨rfl, by decide +kernel, by decide +kernel, by decide +kernel⟩⟩
set_option maxRecDepth 1000000 in
theorem mf_149 : mfG 149 := Or.inr ⟨rfl, by decide +kernel, by decide +kernel, by decide +kernel, by decide +kernel, by decide +kernel, by decide +kernel, rfl, Or.inl ⟨rfl, by decide +kernel, by decide +kernel, by decide +kernel⟩⟩
set_option maxRecDepth 1000000 in
theorem mf_150 : mfG 150 := Or.inr ⟨rfl, by decide +kernel, by decide +kernel, by decide +kernel, by decide +kernel, by decide +kernel, by decide +kernel, rfl, Or.inl ⟨rfl, by decide +kernel, by decide +kernel, by decide +kernel⟩⟩
set_option maxRecDepth 1000000 in
theorem mf_151 : mfG 151 := Or.inr ⟨rfl, by decide +kernel, by decide +kernel, by decide +kernel, by decide +kernel, by decide +kernel, by decide +kernel, rfl, Or.inr (Or.inr ⟨rfl, by decide +kernel, by decide +kernel, rfl⟩)⟩
set_option maxRecDepth 1000000 in
theorem mf_152 : mfG 152 := Or.inr ⟨rfl, by decide +kernel, by decide +kernel, by decide +kernel, by decide +kernel, by decide +kernel, by decide +kernel, rfl, Or.inl ⟨rfl, by decide +kernel, by decide +kernel, by decide +kernel⟩⟩
set_option maxRecDepth 1000000 in
theorem mf_153 : mfG 153 := Or.inr ⟨rfl, by decide +kernel, by decide +kernel, by decide +kernel, by decide +kernel, by decide +kernel, by decide +kernel, rfl, Or.inl ⟨rfl, by decide +kernel, by decide +kernel, by decide +kernel⟩⟩
set_option maxRecDepth 1000000 in
theorem mf_154 : mfG 154 := Or.inr ⟨rfl, by decide +kernel, by decide +kernel, by decide +kernel, by decide +kernel, by decide +kernel, by decide +kernel, rfl, Or.inl ⟨rfl, by decide +kernel, by decide +kernel, by decide +kernel⟩⟩
set_option maxRecDepth 1000000 in
theorem mf_155 : mfG 155 := Or.inr ⟨rfl, by decide +kernel, by decide +kernel, by decide +kernel, by decide +kernel, by decide +kernel, by decide +kernel, rfl, Or.inl ⟨rfl, by decide +kernel, by decide +kernel, by decide +kernel⟩⟩
set_option maxRecDepth 1000000 in
theorem mf_156 : mfG 156 := Or.inr ⟨rfl, by decide +kernel, by decide +kernel, by decide +kernel, by decide +kernel, by decide +kernel, by decide +kernel, rfl, Or.inl ⟨rfl, by decide +kernel, by decide +kernel, by decide +kernel⟩⟩
set_option maxRecDepth 1000000 in
theorem mf_157 : mfG 157 := Or.inr ⟨rfl, by decide +kernel, by decide +kernel, by decide +kernel, by decide +kernel, by decide +kernel, by decide +kernel, rfl, Or.inl ⟨rfl, by decide +kernel, by decide +kernel, by decide +kernel⟩⟩
set_option maxRecDepth 1000000 in
theorem mf_158 : mfG 158 := Or.inr ⟨rfl, by decide +kernel, by decide +kernel, by decide +kernel, by decide +kernel, by decide +kernel, by decide +kernel, rfl, Or.inl ⟨rfl, by decide +kernel, by decide +kernel, by decide +kernel⟩⟩
set_option maxRecDepth 1000000 in
theorem mf_159 : mfG 159 := Or.inr ⟨rfl, by decide +kernel, by decide +kernel, by decide +kernel, by decide +kernel, by decide +kernel, by decide +kernel, rfl, Or.inl ⟨rfl, by decide +kernel, by decide +kernel, by decide +kernel⟩⟩
set_option maxRecDepth 1000000 in
theorem mf_160 : mfG 160 := Or.inr ⟨rfl, by decide +kernel, by decide +kernel, by decide +kernel, by decide +kernel, by decide +kernel, by decide +kernel, rfl, Or.inl ⟨rfl, by decide +kernel, by decide +kernel, by decide +kernel⟩⟩
set_option maxRecDepth 1000000 in
theorem mf_161 : mfG 161 := Or.inr ⟨rfl, by decide +kernel, by decide +kernel, by decide +kernel, by decide +kernel, by decide +kernel, by decide +kernel, rfl, Or.inl ⟨rfl, by decide +kernel, by decide +kernel, by decide +kernel⟩⟩
set_option maxRecDepth 1000000 in
theorem mf_162 : mfG 162 := Or.inr ⟨rfl, by decide +kernel, by decide +kernel, by decide +kernel, by decide +kernel, by decide +kernel, by decide +kernel, rfl, Or.inl ⟨rfl, by decide +kernel, by decide +kernel, by decide +kernel⟩⟩
set_option maxRecDepth 1000000 in
theorem mf_163 : mfG 163 := Or.inr ⟨rfl, by decide +kernel, by decide +kernel, by decide +kernel, by decide +kernel, by decide +kernel, by decide +kernel, rfl, Or.inl ⟨rfl, by decide +kernel, by decide +kernel, by decide +kernel⟩⟩
set_option maxRecDepth 1000000 in
theorem mf_164 : mfG 164 := Or.inr ⟨rfl, by decide +kernel, by decide +kernel, by decide +kernel, by decide +kernel, by decide +kernel, by decide +kernel, rfl, Or.inl ⟨rfl, by decide +kernel, by decide +kernel, by decide +kernel⟩⟩
set_option maxRecDepth 1000000 in
theorem mf_165 : mfG 165 := Or.inr ⟨rfl, by decide +kernel, by decide +kernel, by decide +kernel, by decide +kernel, by decide +kernel, by decide +kernel, rfl, Or.inl ⟨rfl, by decide +kernel, by decide +kernel, by decide +kernel⟩⟩
set_option maxRecDepth 1000000 in
theorem mf_166 : mfG 166 := Or.inr ⟨rfl, by decide +kernel, by decide +kernel, by decide +kernel, by decide +kernel, by decide +kernel, by decide +kernel, rfl, Or.inl ⟨rfl, by decide +kernel, by decide +kernel, by decide +kernel⟩⟩
set_option maxRecDepth 1000000 in
theorem mf_167 : mfG 167 := Or.inr ⟨rfl, by decide +kernel, by decide +kernel, by decide +kernel, by decide +kernel, by decide +kernel, by decide +kernel, rfl, Or.inr (Or.inr ⟨rfl, by decide +kernel, by decide +kernel, rfl⟩)⟩
set_option maxRecDepth 1000000 in
theorem mf_168 : mfG 168 := Or.inr ⟨rfl, by decide +kernel, by decide +kernel, by decide +kernel, by decide +kernel, by decide +kernel, by decide +kernel, rfl, Or.inl ⟨rfl, by decide +kernel, by decide +kernel, by decide +kernel⟩⟩
set_option maxRecDepth 1000000 in
theorem mf_169 : mfG 169 := Or.inr ⟨rfl, by decide +kernel, by decide +kernel, by decide +kernel, by decide +kernel, by decide +kernel, by decide +kernel, rfl, Or.inl ⟨rfl, by decide +kernel, by decide +kernel, by decide +kernel⟩⟩
set_option maxRecDepth 1000000 in
theorem mf_170 : mfG 170 := Or.inr ⟨rfl, by decide +kernel, by decide +kernel, by decide +kernel, by decide +kernel, by decide +kernel, by decide +kernel, rfl, Or.inl ⟨rfl, by decide +kernel, by decide +kernel, by decide +kernel⟩⟩
set_option maxRecDepth 1000000 in
theorem mf_171 : mfG 171 := Or.inr ⟨rfl, by decide +kernel, by decide +kernel, by decide +kernel, by decide +kernel, by decide +kernel, by decide +kernel, rfl, Or.inl ⟨rfl, by decide +kernel, by decide +kernel, by decide +kernel⟩⟩
set_option maxRecDepth 1000000 in
theorem mf_172 : mfG 172 := Or.inr ⟨rfl, by decide +kernel, by decide +kernel, by decide +kernel, by decide +kernel, by decide +kernel, by decide +kernel, rfl, Or.inl ⟨rfl, by decide +kernel, by decide +kernel, by decide +kernel⟩⟩
set_option maxRecDepth 1000000 in
theorem mf_173 : mfG 173 := Or.inr ⟨rfl, by decide +kernel, by decide +kernel, by decide +kernel, by decide +kernel, by decide +kernel, by decide +kernel, rfl, Or.inl ⟨rfl, by decide +kernel, by decide +kernel, by decide +kernel⟩⟩
set_option maxRecDepth 1000000 in
theorem mf_174 : mfG 174 := Or.inr ⟨rfl, by decide +kernel, by decide +kernel, by decide +kernel, by decide +kernel, by decide +kernel, by decide +kernel, rfl, Or.inl ⟨rfl, by decide +kernel, by decide +kernel, by decide +kernel⟩⟩
set_option maxRecDepth 1000000 in
theorem mf_175 : mfG 175 := Or.inr ⟨rfl, by decide +kernel, by decide +kernel, by decide +kernel, by decide +kernel, by decide +kernel, by decide +kernel, rfl, Or.inl ⟨rfl, by decide +kernel, by decide +kernel, by decide +kernel⟩⟩
set_option maxRecDepth 1000000 in
theorem mf_176 : mfG 176 := Or.inr ⟨rfl, by decide +kernel, by decide +kernel, by decide +kernel, by decide +kernel, by decide +kernel, by decide +kernel, rfl, Or.inl ⟨rfl, by decide +kernel, by decide +kernel, by decide +kernel⟩⟩
set_option maxRecDepth 1000000 in
theorem mf_177 : mfG 177 := Or.inr ⟨rfl, by decide +kernel, by decide +kernel, by decide +kernel, by decide +kernel, by decide +kernel, by decide +kernel, rfl, Or.inl ⟨rfl, by decide +kernel, by decide +kernel, by decide +kernel⟩⟩
set_option maxRecDepth 1000000 in
theorem mf_178 : mfG 178 := Or.inr ⟨rfl, by decide +kernel, by decide +kernel, by decide +kernel, by decide +kernel, by decide +kernel, by decide +kernel, rfl, Or.inl ⟨rfl, by decide +kernel, by decide +kernel, by decide +kernel⟩⟩
set_option maxRecDepth 1000000 in
theorem mf_179 : mfG 179 := Or.inr ⟨rfl, by decide +kernel, by decide +kernel, by decide +kernel, by decide +kernel, by decide +kernel, by decide +kernel, rfl, Or.inr (Or.inr ⟨rfl, by decide +kernel, by decide +kernel, rfl⟩)⟩
set_option maxRecDepth 1000000 in
theorem mf_180 : mfG 180 := Or.inr ⟨rfl, by decide +kernel, by decide +kernel, by decide +kernel, by decide +kernel, by decide +kernel, by decide +kernel, rfl, Or.inl ⟨rfl, by decide +kernel, by decide +kernel, by decide +kernel⟩⟩
set_option maxRecDepth 1000000 in
theorem mf_181 : mfG 181 := Or.inr ⟨rfl, by decide +kernel, by decide +kernel, by decide +kernel, by decide +kernel, by decide +kernel, by decide +kernel, rfl, Or.inl ⟨rfl, by decide +kernel, by decide +kernel, by decide +kernel⟩⟩
set_option maxRecDepth 1000000 in
theorem mf_182 : mfG 182 := Or.inr ⟨rfl, by decide +kernel, by decide +kernel, by decide +kernel, by decide +kernel, by decide +kernel, by decide +kernel, rfl, Or.inl ⟨rfl, by decide +kernel, by decide +kernel, by decide +kernel⟩⟩
set_option maxRecDepth 1000000 in
theorem mf_183 : mfG 183 := Or.inr ⟨rfl, by decide +kernel, by decide +kernel, by decide +kernel, by decide +kernel, by decide +kernel, by decide +kernel, rfl, Or.inl ⟨rfl, by decide +kernel, by decide +kernel, by decide +kernel⟩⟩
set_option maxRecDepth 1000000 in
theorem mf_184 : mfG 184 := Or.inr ⟨rfl, by decide +kernel, by decide +kernel, by decide +kernel, by decide +kernel, by decide +kernel, by decide +kernel, rfl, Or.inl ⟨rfl, by decide +kernel, by decide +kernel, by decide +kernel⟩⟩
set_option maxRecDepth 1000000 in
theorem mf_185 : mfG 185 := Or.inr ⟨rfl, by decide +kernel, by decide +kernel, by decide +kernel, by decide +kernel, by decide +kernel, by decide +kernel, rfl, Or.inl ⟨rfl, by decide +kernel, by decide +kernel, by decide +kernel⟩⟩
set_option maxRecDepth 1000000 in
theorem mf_186 : mfG 186 := Or.inr ⟨rfl, by decide +kernel, by decide +kernel, by decide +kernel, by decide +kernel, by decide +kernel, by decide +kernel, rfl, Or.inl ⟨rfl, by decide +kernel, by decide +kernel, by decide +kernel⟩⟩
set_option maxRecDepth 1000000 in
theorem mf_187 : mfG 187 := Or.inr ⟨rfl, by decide +kernel, by decide +kernel, by decide +kernel, by decide +kernel, by decide +kernel, by decide +kernel, rfl, Or.inr (Or.inl ⟨rfl, by decide +kernel, by decide +kernel⟩)⟩
set_option maxRecDepth 1000000 in
theorem mf_188 : mfG 188 := Or.inr ⟨rfl, by decide +kernel, by decide +kernel, by decide +kernel, by decide +kernel, by decide +kernel, by decide +kernel, rfl, Or.inl ⟨rfl, by decide +kernel, by decide +kernel, by decide +kernel⟩⟩
set_option maxRecDepth 1000000 in
theorem mf_189 : mfG 189 := Or.inr ⟨rfl, by decide +kernel, by decide +kernel, by decide +kernel, by decide +kernel, by decide +kernel, by decide +kernel, rfl, Or.inl ⟨rfl, by decide +kernel, by decide +kernel, by decide +kernel⟩⟩
set_option maxRecDepth 1000000 in
theorem mf_190 : mfG 190 := Or.inr ⟨rfl, by decide +kernel, by decide +kernel, by decide +kernel, by decide +kernel, by decide +kernel, by decide +kernel, rfl, Or.inl ⟨rfl, by decide +kernel, by decide +kernel, by decide +kernel⟩⟩
set_option maxRecDepth 1000000 in
theorem mf_191 : mfG 191 := Or.inr ⟨rfl, by decide +kernel, by decide +kernel, by decide +kernel, by decide +kernel, by decide +kernel, by decide +kernel, rfl, Or.inl ⟨rfl, by decide +kernel, by decide +kernel, by decide +kernel⟩⟩
set_option maxRecDepth 1000000 in
theorem mf_192 : mfG 192 := Or.inr ⟨rfl, by decide +kernel, by decide +kernel, by decide +kernel, by decide +kernel, by decide +kernel, by decide +kernel, rfl, Or.inl ⟨rfl, by decide +kernel, by decide +kernel, by decide +kernel⟩⟩
set_option maxRecDepth 1000000 in
theorem mf_193 : mfG 193 := Or.inr ⟨rfl, by decide +kernel, by decide +kernel, by decide +kernel, by decide +kernel, by decide +kernel, by decide +kernel, rfl, Or.inr (Or.inr ⟨rfl, by decide +kernel, by decide +kernel, rfl⟩)⟩
set_option maxRecDepth 1000000 in
theorem mf_194 : mfG 194 := Or.inr ⟨rfl, by decide +kernel, by decide +kernel, by decide +kernel, by decide +kernel, by decide +kernel, by decide +kernel, rfl, Or.inr (Or.inl ⟨rfl, by decide +kernel, by decide +kernel⟩)⟩
set_option maxRecDepth 1000000 in
theorem mf_195 : mfG 195 := Or.inr ⟨rfl, by decide +kernel, by decide +kernel, by decide +kernel, by decide +kernel, by decide +kernel, by decide +kernel, rfl, Or.inr (Or.inl ⟨rfl, by decide +kernel, by decide +kernel⟩)⟩
set_option maxRecDepth 1000000 in
theorem mf_196 : mfG 196 := Or.inr ⟨rfl, by decide +kernel, by decide +kernel, by decide +kernel, by decide +kernel, by decide +kernel, by decide +kernel, rfl, Or.inr (Or.inl ⟨rfl, by decide +kernel, by decide +kernel⟩)⟩
set_option maxRecDepth 1000000 in
theorem mf_197 : mfG 197 := Or.inr ⟨rfl, by decide +kernel, by decide +kernel, by decide +kernel, by decide +kernel, by decide +kernel, by decide +kernel, rfl, Or.inr (Or.inl ⟨rfl, by decide +kernel, by decide +kernel⟩)⟩
set_option maxRecDepth 1000000 in
theorem mf_198 : mfG 198 := Or.inr ⟨rfl, by decide +kernel, by decide +kernel, by decide +kernel, by decide +kernel, by decide +kernel, by decide +kernel, rfl, Or.inl ⟨rfl, by decide +kernel, by decide +kernel, by decide +kernel⟩⟩
set_option maxRecDepth 1000000 in
theorem mf_199 : mfG 199 := Or.inr ⟨rfl, by decide +kernel, by decide +kernel, by decide +kernel, by decide +kernel, by decide +kernel, by decide +kernel, rfl, Or.inl ⟨rfl, by decide +kernel, by decide +kernel, by decide +kernel⟩⟩
set_option maxRecDepth 1000000 in
theorem mf_200 : mfG 200 := Or.inr ⟨rfl, by decide +kernel, by decide +kernel, by decide +kernel, by decide +kernel, by decide +kernel, by decide +kernel, rfl, Or.inl ⟨rfl, by decide +kernel, by decide +kernel, by decide +kernel⟩⟩
set_option maxRecDepth 1000000 in
theorem mf_201 : mfG 201 := Or.inr ⟨rfl, by decide +kernel, by decide +kernel, by decide +kernel, by decide +kernel, by decide +kernel, by decide +kernel, rfl, Or.inl ⟨rfl, by decide +kernel, by decide +kernel, by decide +kernel⟩⟩
set_option maxRecDepth 1000000 in
theorem mf_202 : mfG 202 := Or.inr ⟨rfl, by decide +kernel, by decide +kernel, by decide +kernel, by decide +kernel, by decide +kernel, by decide +kernel, rfl, Or.inl ⟨rfl, by decide +kernel, by decide +kernel, by decide +kernel⟩⟩
set_option maxRecDepth 1000000 in
theorem mf_203 : mfG 203 := Or.inr ⟨rfl, by decide +kernel, by decide +kernel, by decide +kernel, by decide +kernel, by decide +kernel, by decide +kernel, rfl, Or.inl ⟨rfl, by decide +kernel, by decide +kernel, by decide +kernel⟩⟩
set_option maxRecDepth 1000000 in
theorem mf_204 : mfG 204 := Or.inr ⟨rfl, by decide +kernel, by decide +kernel, by decide +kernel, by decide +kernel, by decide +kernel, by decide +kernel, rfl, Or.inl ⟨rfl, by decide +kernel, by decide +kernel, by decide +kernel⟩⟩
set_option maxRecDepth 1000000 in
theorem mf_205 : mfG 205 := Or.inr ⟨rfl, by decide +kernel, by decide +kernel, by decide +kernel, by decide +kernel, by decide +kernel, by decide +kernel, rfl, Or.inl ⟨rfl, by decide +kernel, by decide +kernel, by decide +kernel⟩⟩
set_option maxRecDepth 1000000 in
theorem mf_206 : mfG 206 := Or.inr ⟨rfl, by decide +kernel, by decide +kernel, by decide +kernel, by decide +kernel, by decide +kernel, by decide +kernel, rfl, Or.inr (Or.inl ⟨rfl, by decide +kernel, by decide +kernel⟩)⟩
set_option maxRecDepth 1000000 in
theorem mf_207 : mfG 207 := Or.inr ⟨rfl, by decide +kernel, by decide +kernel, by decide +kernel, by decide +kernel, by decide +kernel, by decide +kernel, rfl, Or.inl ⟨rfl, by decide +kernel, by decide +kernel, by decide +kernel⟩⟩
set_option maxRecDepth 1000000 in
theorem mf_208 : mfG 208 := Or.inr ⟨rfl, by decide +kernel, by decide +kernel, by decide +kernel, by decide +kernel, by decide +kernel, by decide +kernel, rfl, Or.inl ⟨rfl, by decide +kernel, by decide +kernel, by decide +kernel⟩⟩
set_option maxRecDepth 1000000 in
theorem mf_209 : mfG 209 := Or.inr ⟨rfl, by decide +kernel, by decide +kernel, by decide +kernel, by decide +kernel, by decide +kernel, by decide +kernel, rfl, Or.inl ⟨rfl, by decide +kernel, by decide +kernel, by decide +kernel⟩⟩
set_option maxRecDepth 1000000 in
theorem mf_210 : mfG 210 := Or.inr ⟨rfl, by decide +kernel, by decide +kernel, by decide +kernel, by decide +kernel, by decide +kernel, by decide +kernel, rfl, Or.inl ⟨rfl, by decide +kernel, by decide +kernel, by decide +kernel⟩⟩
set_option maxRecDepth 1000000 in
theorem mf_211 : mfG 211 := Or.inr ⟨rfl, by decide +kernel, by decide +kernel, by decide +kernel, by decide +kernel, by decide +kernel, by decide +kernel, rfl, Or.inl ⟨rfl, by decide +kernel, by decide +kernel, by decide +kernel⟩⟩
set_option maxRecDepth 1000000 in
theorem mf_212 : mfG 212 := Or.inr ⟨rfl, by decide +kernel, by decide +kernel, by decide +kernel, by decide +kernel, by decide +kernel, by decide +kernel, rfl, Or.inl ⟨rfl, by decide +kernel, by decide +kernel, by decide +kernel⟩⟩
set_option maxRecDepth 1000000 in
theorem mf_213 : mfG 213 := Or.inr ⟨rfl, by decide +kernel, by decide +kernel, by decide +kernel, by decide +kernel, by decide +kernel, by decide +kernel, rfl, Or.inl ⟨rfl, by decide +kernel, by decide +kernel, by decide +kernel⟩⟩
set_option maxRecDepth 1000000 in
theorem mf_214 : mfG 214 := Or.inr ⟨rfl, by decide +kernel, by decide +kernel, by decide +kernel, by decide +kernel, by decide +kernel, by decide +kernel, rfl, Or.inl ⟨rfl, by decide +kernel, by decide +kernel, by decide +kernel⟩⟩
set_option maxRecDepth 1000000 in
theorem mf_215 : mfG 215 := Or.inr ⟨rfl, by decide +kernel, by decide +kernel, by decide +kernel, by decide +kernel, by decide +kernel, by decide +kernel, rfl, Or.inl ⟨rfl, by decide +kernel, by decide +kernel, by decide +kernel⟩⟩
set_option maxRecDepth 1000000 in
theorem mf_216 : mfG 216 := Or.inr ⟨rfl, by decide +kernel, by decide +kernel, by decide +kernel, by decide +kernel, by decide +kernel, by decide +kernel, rfl, Or.inl ⟨rfl, by decide +kernel, by decide +kernel, by decide +kernel⟩⟩
set_option maxRecDepth 1000000 in
theorem mf_217 : mfG 217 := Or.inr ⟨rfl, by decide +kernel, by decide +kernel, by decide +kernel, by decide +kernel, by decide +kernel, by decide +kernel, rfl, Or.inl ⟨rfl, by decide +kernel, by decide +kernel, by decide +kernel⟩⟩
set_option maxRecDepth 1000000 in
theorem mf_218 : mfG 218 := Or.inr ⟨rfl, by decide +kernel, by decide +kernel, by decide +kernel, by decide +kernel, by decide +kernel, by decide +kernel, rfl, Or.inl ⟨rfl, by decide +kernel, by decide +kernel, by decide +kernel⟩⟩
set_option maxRecDepth 1000000 in
theorem mf_219 : mfG 219 := Or.inr ⟨rfl, by decide +kernel, by decide +kernel, by decide +kernel, by decide +kernel, by decide +kernel, by decide +kernel, rfl, Or.inl ⟨rfl, by decide +kernel, by decide +kernel, by decide +kernel⟩⟩
set_option maxRecDepth 1000000 in
theorem mf_220 : mfG 220 := Or.inr ⟨rfl, by decide +kernel, by decide +kernel, by decide +kernel, by decide +kernel, by decide +kernel, by decide +kernel, rfl, Or.inl ⟨rfl, by decide +kernel, by decide +kernel, by decide +kernel⟩⟩
set_option maxRecDepth 1000000 in
theorem mf_221 : mfG 221 := Or.inr ⟨rfl, by decide +kernel, by decide +kernel, by decide +kernel, by decide +kernel, by decide +kernel, by decide +kernel, rfl, Or.inr (Or.inl ⟨rfl, by decide +kernel, by decide +kernel⟩)⟩
set_option maxRecDepth 1000000 in
theorem mf_222 : mfG 222 := Or.inr ⟨rfl, by decide +kernel, by decide +kernel, by decide +kernel, by decide +kernel, by decide +kernel, by decide +kernel, rfl, Or.inl ⟨rfl, by decide +kernel, by decide +kernel, by decide +kernel⟩⟩
set_option maxRecDepth 1000000 in
theorem mf_223 : mfG 223 := Or.inr ⟨rfl, by decide +kernel, by decide +kernel, by decide +kernel, by decide +kernel, by decide +kernel, by decide +kernel, rfl, Or.inl ⟨rfl, by decide +kernel, by decide +kernel, by decide +kernel⟩⟩
set_option maxRecDepth 1000000 in
theorem mf_224 : mfG 224 := Or.inr ⟨rfl, by decide +kernel, by decide +kernel, by decide +kernel, by decide +kernel, by decide +kernel, by decide +kernel, rfl, Or.inl ⟨rfl, by decide +kernel, by decide +kernel, by decide +kernel⟩⟩
set_option maxRecDepth 1000000 in
theorem mf_225 : mfG 225 := Or.inr ⟨rfl, by decide +kernel, by decide +kernel, by decide +kernel, by decide +kernel, by decide +kernel, by decide +kernel, rfl, Or.inl ⟨rfl, by decide +kernel, by decide +kernel, by decide +kernel⟩⟩
set_option maxRecDepth 1000000 in
theorem mf_226 : mfG 226 := Or.inr ⟨rfl, by decide +kernel, by decide +kernel, by decide +kernel, by decide +kernel, by decide +kernel, by decide +kernel, rfl, Or.inl ⟨rfl, by decide +kernel, by decide +kernel, by decide +kernel⟩⟩
set_option maxRecDepth 1000000 in
theorem mf_227 : mfG 227 := Or.inr ⟨rfl, by decide +kernel, by decide +kernel, by decide +kernel, by decide +kernel, by decide +kernel, by decide +kernel, rfl, Or.inl ⟨rfl, by decide +kernel, by decide +kernel, by decide +kernel⟩⟩
set_option maxRecDepth 1000000 in
theorem mf_228 : mfG 228 := Or.inr ⟨rfl, by decide +kernel, by decide +kernel, by decide +kernel, by decide +kernel, by decide +kernel, by decide +kernel, rfl, Or.inl ⟨rfl, by decide +kernel, by decide +kernel, by decide +kernel⟩⟩
set_option maxRecDepth 1000000 in
theorem mf_229 : mfG 229 := Or.inr ⟨rfl, by decide +kernel, by decide +kernel, by decide +kernel, by decide +kernel, by decide +kernel, by decide +kernel, rfl, Or.inl ⟨rfl, by decide +kernel, by decide +kernel, by decide +kernel⟩⟩
set_option maxRecDepth 1000000 in
theorem mf_230 : mfG 230 := Or.inr ⟨rfl, by decide +kernel, by decide +kernel, by decide +kernel, by decide +kernel, by decide +kernel, by decide +kernel, rfl, Or.inl ⟨rfl, by decide +kernel, by decide +kernel, by decide +kernel⟩⟩
set_option maxRecDepth 1000000 in
theorem mf_231 : mfG 231 := Or.inr ⟨rfl, by decide +kernel, by decide +kernel, by decide +kernel, by decide +kernel, by decide +kernel, by decide +kernel, rfl, Or.inl ⟨rfl, by decide +kernel, by decide +kernel, by decide +kernel⟩⟩
set_option maxRecDepth 1000000 in
theorem mf_232 : mfG 232 := Or.inr ⟨rfl, by decide +kernel, by decide +kernel, by decide +kernel, by decide +kernel, by decide +kernel, by decide +kernel, rfl, Or.inr (Or.inl ⟨rfl, by decide +kernel, by decide +kernel⟩)⟩
set_option maxRecDepth 1000000 in
theorem mf_233 : mfG 233 := Or.inr ⟨rfl, by decide +kernel, by decide +kernel, by decide +kernel, by decide +kernel, by decide +kernel, by decide +kernel, rfl, Or.inl ⟨rfl, by decide +kernel, by decide +kernel, by decide +kernel⟩⟩
set_option maxRecDepth 1000000 in
theorem mf_234 : mfG 234 := Or.inr ⟨rfl, by decide +kernel, by decide +kernel, by decide +kernel, by decide +kernel, by decide +kernel, by decide +kernel, rfl, Or.inl ⟨rfl, by decide +kernel, by decide +kernel, by decide +kernel⟩⟩
set_option maxRecDepth 1000000 in
theorem mf_235 : mfG 235 := Or.inr ⟨rfl, by decide +kernel, by decide +kernel, by decide +kernel, by decide +kernel, by decide +kernel, by decide +kernel, rfl, Or.inl ⟨rfl, by decide +kernel, by decide +kernel, by decide +kernel⟩⟩
set_option maxRecDepth 1000000 in
theorem mf_236 : mfG 236 := Or.inr ⟨rfl, by decide +kernel, by decide +kernel, by decide +kernel, by decide +kernel, by decide +kernel, by decide +kernel, rfl, Or.inr (Or.inl ⟨rfl, by decide +kernel, by decide +kernel⟩)⟩
set_option maxRecDepth 1000000 in
theorem mf_237 : mfG 237 := Or.inr ⟨rfl, by decide +kernel, by decide +kernel, by decide +kernel, by decide +kernel, by decide +kernel, by decide +kernel, rfl, Or.inl ⟨rfl, by decide +kernel, by decide +kernel, by decide +kernel⟩⟩
set_option maxRecDepth 1000000 in
theorem mf_238 : mfG 238 := Or.inr ⟨rfl, by decide +kernel, by decide +kernel, by decide +kernel, by decide +kernel, by decide +kernel, by decide +kernel, rfl, Or.inl ⟨rfl, by decide +kernel, by decide +kernel, by decide +kernel⟩⟩
set_option maxRecDepth 1000000 in
theorem mf_239 : mfG 239 := Or.inr ⟨rfl, by decide +kernel, by decide +kernel, by decide +kernel, by decide +kernel, by decide +kernel, by decide +kernel, rfl, Or.inl ⟨rfl, by decide +kernel, by decide +kernel, by decide +kernel⟩⟩
set_option maxRecDepth 1000000 in
theorem mf_240 : mfG 240 := Or.inr ⟨rfl, by decide +kernel, by decide +kernel, by decide +kernel, by decide +kernel, by decide +kernel, by decide +kernel, rfl, Or.inl ⟨rfl, by decide +kernel, by decide +kernel, by decide +kernel⟩⟩
set_option maxRecDepth 1000000 in
theorem mf_241 : mfG 241 := Or.inr ⟨rfl, by decide +kernel, by decide +kernel, by decide +kernel, by decide +kernel, by decide +kernel, by decide +kernel, rfl, Or.inl ⟨rfl, by decide +kernel, by decide +kernel, by decide +kernel⟩⟩
set_option maxRecDepth 1000000 in
theorem mf_242 : mfG 242 := Or.inr ⟨rfl, by decide +kernel, by decide +kernel, by decide +kernel, by decide +kernel, by decide +kernel, by decide +kernel, rfl, Or.inl ⟨rfl, by decide +kernel, by decide +kernel, by decide +kernel⟩⟩
set_option maxRecDepth 1000000 in
theorem mf_243 : mfG 243 := Or.inr ⟨rfl, by decide +kernel, by decide +kernel, by decide +kernel, by decide +kernel, by decide +kernel, by decide +kernel, rfl, Or.inl ⟨rfl, by decide +kernel, by decide +kernel, by decide +kernel⟩⟩
set_option maxRecDepth 1000000 in
theorem mf_244 : mfG 244 := Or.inr ⟨rfl, by decide +kernel, by decide +kernel, by decide +kernel, by decide +kernel, by decide +kernel, by decide +kernel, rfl, Or.inl ⟨rfl, by decide +kernel, by decide +kernel, by decide +kernel⟩⟩
set_option maxRecDepth 1000000 in
theorem mf_245 : mfG 245 := Or.inr ⟨rfl, by decide +kernel, by decide +kernel, by decide +kernel, by decide +kernel, by decide +kernel, by decide +kernel, rfl, Or.inl ⟨rfl, by decide +kernel, by decide +kernel, by decide +kernel⟩⟩
set_option maxRecDepth 1000000 in
theorem mf_246 : mfG 246 := Or.inr ⟨rfl, by decide +kernel, by decide +kernel, by decide +kernel, by decide +kernel, by decide +kernel, by decide +kernel, rfl, Or.inl ⟨rfl, by decide +kernel, by decide +kernel, by decide +kernel⟩⟩
set_option maxRecDepth 1000000 in
theorem mf_247 : mfG 247 := Or.inr ⟨rfl, by decide +kernel, by decide +kernel, by decide +kernel, by decide +kernel, by decide +kernel, by decide +kernel, rfl, Or.inl ⟨rfl, by decide +kernel, by decide +kernel, by decide +kernel⟩⟩
set_option maxRecDepth 1000000 in
theorem mf_248 : mfG 248 := Or.inr ⟨rfl, by decide +kernel, by decide +kernel, by decide +kernel, by decide +kernel, by decide +kernel, by decide +kernel, rfl, Or.inl ⟨rfl, by decide +kernel, by decide +kernel, by decide +kernel⟩⟩
set_option maxRecDepth 1000000 in
theorem mf_249 : mfG 249 := Or.inr ⟨rfl, by decide +kernel, by decide +kernel, by decide +kernel, by decide +kernel, by decide +kernel, by decide +kernel, rfl, Or.inl ⟨rfl, by decide +kernel, by decide +kernel, by decide +kernel⟩⟩
set_option maxRecDepth 1000000 in
theorem mf_250 : mfG 250 := Or.inr ⟨rfl, by decide +kernel, by decide +kernel, by decide +kernel, by decide +kernel, by decide +kernel, by decide +kernel, rfl, Or.inl ⟨rfl, by decide +kernel, by decide +kernel, by decide +kernel⟩⟩
set_option maxRecDepth 1000000 in
theorem mf_251 : mfG 251 := Or.inr ⟨rfl, by decide +kernel, by decide +kernel, by decide +kernel, by decide +kernel, by decide +kernel, by decide +kernel, rfl, Or.inl ⟨rfl, by decide +kernel, by decide +kernel, by decide +kernel⟩⟩
set_option maxRecDepth 1000000 in
theorem mf_252 : mfG 252 := Or.inr ⟨rfl, by decide +kernel, by decide +kernel, by decide +kernel, by decide +kernel, by decide +kernel, by decide +kernel, rfl, Or.inr (Or.inl ⟨rfl, by decide +kernel, by decide +kernel⟩)⟩
set_option maxRecDepth 1000000 in
theorem mf_253 : mfG 253 := Or.inr ⟨rfl, by decide +kernel, by decide +kernel, by decide +kernel, by decide +kernel, by decide +kernel, by decide +kernel, rfl, Or.inl ⟨rfl, by decide +kernel, by decide +kernel, by decide +kernel⟩⟩
set_option maxRecDepth 1000000 in
theorem mf_254 : mfG 254 := Or.inr ⟨rfl, by decide +kernel, by decide +kernel, by decide +kernel, by decide +kernel, by decide +kernel, by decide +kernel, rfl, Or.inl ⟨rfl, by decide +kernel, by decide +kernel, by decide +kernel⟩⟩
set_option maxRecDepth 1000000 in
theorem mf_255 : mfG 255 := Or.inr ⟨rfl, by decide +kernel, by decide +kernel, by decide +kernel, by decide +kernel, by decide +kernel, by decide +kernel, rfl, Or.inl ⟨rfl, by decide +kernel, by decide +kernel, by decide +kernel⟩⟩
set_option maxRecDepth 1000000 in
theorem mf_256 : mfG 256 := Or.inr ⟨rfl, by decide +kernel, by decide +kernel, by decide +kernel, by decide +kernel, by decide +kernel, by decide +kernel, rfl, Or.inl ⟨rfl, by decide +kernel, by decide +kernel, by decide +kernel⟩⟩
set_option maxRecDepth 1000000 in
theorem mf_257 : mfG 257 := Or.inr ⟨rfl, by decide +kernel, by decide +kernel, by decide +kernel, by decide +kernel, by decide +kernel, by decide +kernel, rfl, Or.inl ⟨rfl, by decide +kernel, by decide +kernel, by decide +kernel⟩⟩
set_option maxRecDepth 1000000 in
theorem mf_258 : mfG 258 := Or.inr ⟨rfl, by decide +kernel, by decide +kernel, by decide +kernel, by decide +kernel, by decide +kernel, by decide +kernel, rfl, Or.inr (Or.inl ⟨rfl, by decide +kernel, by decide +kernel⟩)⟩
set_option maxRecDepth 1000000 in
theorem mf_259 : mfG 259 := Or.inr ⟨rfl, by decide +kernel, by decide +kernel, by decide +kernel, by decide +kernel, by decide +kernel, by decide +kernel, rfl, Or.inl ⟨rfl, by decide +kernel, by decide +kernel, by decide +kernel⟩⟩
set_option maxRecDepth 1000000 in
theorem mf_260 : mfG 260 := Or.inr ⟨rfl, by decide +kernel, by decide +kernel, by decide +kernel, by decide +kernel, by decide +kernel, by decide +kernel, rfl, Or.inl ⟨rfl, by decide +kernel, by decide +kernel, by decide +kernel⟩⟩
set_option maxRecDepth 1000000 in
theorem mf_261 : mfG 261 := Or.inr ⟨rfl, by decide +kernel, by decide +kernel, by decide +kernel, by decide +kernel, by decide +kernel, by decide +kernel, rfl, Or.inl ⟨rfl, by decide +kernel, by decide +kernel, by decide +kernel⟩⟩
set_option maxRecDepth 1000000 in
theorem mf_262 : mfG 262 := Or.inr ⟨rfl, by decide +kernel, by decide +kernel, by decide +kernel, by decide +kernel, by decide +kernel, by decide +kernel, rfl, Or.inl ⟨rfl, by decide +kernel, by decide +kernel, by decide +kernel⟩⟩
set_option maxRecDepth 1000000 in
theorem mf_263 : mfG 263 := Or.inr ⟨rfl, by decide +kernel, by decide +kernel, by decide +kernel, by decide +kernel, by decide +kernel, by decide +kernel, rfl, Or.inl ⟨rfl, by decide +kernel, by decide +kernel, by decide +kernel⟩⟩
set_option maxRecDepth 1000000 in
theorem mf_264 : mfG 264 := Or.inr ⟨rfl, by decide +kernel, by decide +kernel, by decide +kernel, by decide +kernel, by decide +kernel, by decide +kernel, rfl, Or.inl ⟨rfl, by decide +kernel, by decide +kernel, by decide +kernel⟩⟩
set_option maxRecDepth 1000000 in
theorem mf_265 : mfG 265 := Or.inr ⟨rfl, by decide +kernel, by decide +kernel, by decide +kernel, by decide +kernel, by decide +kernel, by decide +kernel, rfl, Or.inl ⟨rfl, by decide +kernel, by decide +kernel, by decide +kernel⟩⟩
set_option maxRecDepth 1000000 in
theorem mf_266 : mfG 266 := Or.inr ⟨rfl, by decide +kernel, by decide +kernel, by decide +kernel, by decide +kernel, by decide +kernel, by decide +kernel, rfl, Or.inl ⟨rfl, by decide +kernel, by decide +kernel, by decide +kernel⟩⟩
set_option maxRecDepth 1000000 in
theorem mf_267 : mfG 267 := Or.inr ⟨rfl, by decide +kernel, by decide +kernel, by decide +kernel, by decide +kernel, by decide +kernel, by decide +kernel, rfl, Or.inl ⟨rfl, by decide +kernel, by decide +kernel, by decide +kernel⟩⟩
set_option maxRecDepth 1000000 in
theorem mf_268 : mfG 268 := Or.inr ⟨rfl, by decide +kernel, by decide +kernel, by decide +kernel, by decide +kernel, by decide +kernel, by decide +kernel, rfl, Or.inl ⟨rfl, by decide +kernel, by decide +kernel, by decide +kernel⟩⟩
set_option maxRecDepth 1000000 in
theorem mf_269 : mfG 269 := Or.inr ⟨rfl, by decide +kernel, by decide +kernel, by decide +kernel, by decide +kernel, by decide +kernel, by decide +kernel, rfl, Or.inl ⟨rfl, by decide +kernel, by decide +kernel, by decide +kernel⟩⟩
set_option maxRecDepth 1000000 in
theorem mf_270 : mfG 270 := Or.inr ⟨rfl, by decide +kernel, by decide +kernel, by decide +kernel, by decide +kernel, by decide +kernel, by decide +kernel, rfl, Or.inl ⟨rfl, by decide +kernel, by decide +kernel, by decide +kernel⟩⟩
set_option maxRecDepth 1000000 in
theorem mf_271 : mfG 271 := Or.inr ⟨rfl, by decide +kernel, by decide +kernel, by decide +kernel, by decide +kernel, by decide +kernel, by decide +kernel, rfl, Or.inl ⟨rfl, by decide +kernel, by decide +kernel, by decide +kernel⟩⟩
set_option maxRecDepth 1000000 in
theorem mf_272 : mfG 272 := Or.inr ⟨rfl, by decide +kernel, by decide +kernel, by decide +kernel, by decide +kernel, by decide +kernel, by decide +kernel, rfl, Or.inl ⟨rfl, by decide +kernel, by decide +kernel, by decide +kernel⟩⟩
set_option maxRecDepth 1000000 in
theorem mf_273 : mfG 273 := Or.inr ⟨rfl, by decide +kernel, by decide +kernel, by decide +kernel, by decide +kernel, by decide +kernel, by decide +kernel, rfl, Or.inl ⟨rfl, by decide +kernel, by decide +kernel, by decide +kernel⟩⟩
set_option maxRecDepth 1000000 in
theorem mf_274 : mfG 274 := Or.inr ⟨rfl, by decide +kernel, by decide +kernel, by decide +kernel, by decide +kernel, by decide +kernel, by decide +kernel, rfl, Or.inl ⟨rfl, by decide +kernel, by decide +kernel, by decide +kernel⟩⟩
set_option maxRecDepth 1000000 in
theorem mf_275 : mfG 275 := Or.inr ⟨rfl, by decide +kernel, by decide +kernel, by decide +kernel, by decide +kernel, by decide +kernel, by decide +kernel, rfl, Or.inl ⟨rfl, by decide +kernel, by decide +kernel, by decide +kernel⟩⟩
set_option maxRecDepth 1000000 in
theorem mf_276 : mfG 276 := Or.inr ⟨rfl, by decide +kernel, by decide +kernel, by decide +kernel, by decide +kernel, by decide +kernel, by decide +kernel, rfl, Or.inl ⟨rfl, by decide +kernel, by decide +kernel, by decide +kernel⟩⟩
set_option maxRecDepth 1000000 in
theorem mf_277 : mfG 277 := Or.inr ⟨rfl, by decide +kernel, by decide +kernel, by decide +kernel, by decide +kernel, by decide +kernel, by decide +kernel, rfl, Or.inl ⟨rfl, by decide +kernel, by decide +kernel, by decide +kernel⟩⟩
set_option maxRecDepth 1000000 in
theorem mf_278 : mfG 278 := Or.inr ⟨rfl, by decide +kernel, by decide +kernel, by decide +kernel, by decide +kernel, by decide +kernel, by decide +kernel, rfl, Or.inl ⟨rfl, by decide +kernel, by decide +kernel, by decide +kernel⟩⟩
set_option maxRecDepth 1000000 in
theorem mf_279 : mfG 279 := Or.inr ⟨rfl, by decide +kernel, by decide +kernel, by decide +kernel, by decide +kernel, by decide +kernel, by decide +kernel, rfl, Or.inl ⟨rfl, by decide +kernel, by decide +kernel, by decide +kernel⟩⟩
set_option maxRecDepth 1000000 in
theorem mf_280 : mfG 280 := Or.inr ⟨rfl, by decide +kernel, by decide +kernel, by decide +kernel, by decide +kernel, by decide +kernel, by decide +kernel, rfl, Or.inl ⟨rfl, by decide +kernel, by decide +kernel, by decide +kernel⟩⟩
set_option maxRecDepth 1000000 in
theorem mf_281 : mfG 281 := Or.inr ⟨rfl, by decide +kernel, by decide +kernel, by decide +kernel, by decide +kernel, by decide +kernel, by decide +kernel, rfl, Or.inl ⟨rfl, by decide +kernel, by decide +kernel, by decide +kernel⟩⟩
set_option maxRecDepth 1000000 in
theorem mf_282 : mfG 282 := Or.inr ⟨rfl, by decide +kernel, by decide +kernel, by decide +kernel, by decide +kernel, by decide +kernel, by decide +kernel, rfl, Or.inl ⟨rfl, by decide +kernel, by decide +kernel, by decide +kernel⟩⟩
set_option maxRecDepth 1000000 in
theorem mf_283 : mfG 283 := Or.inr ⟨rfl, by decide +kernel, by decide +kernel, by decide +kernel, by decide +kernel, by decide +kernel, by decide +kernel, rfl, Or.inl ⟨rfl, by decide +kernel, by decide +kernel, by decide +kernel⟩⟩
set_option maxRecDepth 1000000 in
theorem mf_284 : mfG 284 := Or.inr ⟨rfl, by decide +kernel, by decide +kernel, by decide +kernel, by decide +kernel, by decide +kernel, by decide +kernel, rfl, Or.inl ⟨rfl, by decide +kernel, by decide +kernel, by decide +kernel⟩⟩
set_option maxRecDepth 1000000 in
theorem mf_285 : mfG 285 := Or.inr ⟨rfl, by decide +kernel, by decide +kernel, by decide +kernel, by decide +kernel, by decide +kernel, by decide +kernel, rfl, Or.inl ⟨rfl, by decide +kernel, by decide +kernel, by decide +kernel⟩⟩
set_option maxRecDepth 1000000 in
theorem mf_286 : mfG 286 := Or.inr ⟨rfl, by decide +kernel, by decide +kernel, by decide +kernel, by decide +kernel, by decide +kernel, by decide +kernel, rfl, Or.inl ⟨rfl, by decide +kernel, by decide +kernel, by decide +kernel⟩⟩
set_option maxRecDepth 1000000 in
theorem mf_287 : mfG 287 := Or.inr ⟨rfl, by decide +kernel, by decide +kernel, by decide +kernel, by decide +kernel, by decide +kernel, by decide +kernel, rfl, Or.inl ⟨rfl, by decide +kernel, by decide +kernel, by decide +kernel⟩⟩
theorem mf_288 : mfG 288 := Or.inl rfl
theorem mf_all : ∀ m, m < 289 → mfG m := by
  intro m h
  match m, h with
  | 0, _ => exact mf_0
  | 1, _ => exact mf_1
  | 2, _ => exact mf_2
  | 3, _ => exact mf_3
  | 4, _ => exact mf_4
  | 5, _ => exact mf_5
  | 6, _ => exact mf_6
  | 7, _ => exact mf_7
  | 8, _ => exact mf_8
  | 9, _ => exact mf_9
  | 10, _ => exact mf_10
  | 11, _ => exact mf_11
  | 12, _ => exact mf_12
  | 13, _ => exact mf_13
  | 14, _ => exact mf_14
  | 15, _ => exact mf_15
  | 16, _ => exact mf_16
  | 17, _ => exact mf_17
  | 18, _ => exact mf_18
  | 19, _ => exact mf_19
  | 20, _ => exact mf_20
  | 21, _ => exact mf_21
  | 22, _ => exact mf_22
  | 23, _ => exact mf_23
  | 24, _ => exact mf_24
  | 25, _ => exact mf_25
  | 26, _ => exact mf_26
  | 27, _ => exact mf_27
  | 28, _ => exact mf_28
  | 29, _ => exact mf_29
  | 30, _ => exact mf_30
  | 31, _ => exact mf_31
  | 32, _ => exact mf_32
  | 33, _ => exact mf_33
  | 34, _ => exact mf_34
  | 35, _ => exact mf_35
  | 36, _ => exact mf_36
  | 37, _ => exact mf_37
  | 38, _ => exact mf_38
  | 39, _ => exact mf_39
  | 40, _ => exact mf_40
  | 41, _ => exact mf_41
  | 42, _ => exact mf_42
  | 43, _ => exact mf_43
  | 44, _ => exact mf_44
  | 45, _ => exact mf_45
  | 46, _ => exact mf_46
  | 47, _ => exact mf_47
  | 48, _ => exact mf_48
  | 49, _ => exact mf_49
  | 50, _ => exact mf_50
  | 51, _ => exact mf_51
  | 52, _ => exact mf_52
  | 53, _ => exact mf_53
  | 54, _ => exact mf_54
  | 55, _ => exact mf_55
  | 56, _ => exact mf_56
  | 57, _ => exact mf_57
  | 58, _ => exact mf_58
  | 59, _ => exact mf_59
  | 60, _ => exact mf_60
  | 61, _ => exact mf_61
  | 62, _ => exact mf_62
  | 63, _ => exact mf_63
  | 64, _ => exact mf_64
  | 65, _ => exact mf_65
  | 66, _ => exact mf_66
  | 67, _ => exact mf_67
  | 68, _ => exact mf_68
  | 69, _ => exact mf_69
  | 70, _ => exact mf_70
  | 71, _ => exact mf_71
  | 72, _ => exact mf_72
  | 73, _ => exact mf_73
  | 74, _ => exact mf_74
  | 75, _ => exact mf_75
  | 76, _ => exact mf_76
  | 77, _ => exact mf_77
  | 78, _ => exact mf_78
  | 79, _ => exact mf_79
  | 80, _ => exact mf_80
  | 81, _ => exact mf_81
  | 82, _ => exact mf_82
  | 83, _ => exact mf_83
  | 84, _ => exact mf_84
  | 85, _ => exact mf_85
  | 86, _ => exact mf_86
  | 87, _ => exact mf_87
  | 88, _ => exact mf_88
  | 89, _ => exact mf_89
  | 90, _ => exact mf_90
  | 91, _ => exact mf_91
  | 92, _ => exact mf_92
  | 93, _ => exact mf_93
  | 94, _ => exact mf_94
  | 95, _ => exact mf_95
  | 96, _ => exact mf_96
  | 97, _ => exact mf_97
  | 98, _ => exact mf_98
  | 99, _ => exact mf_99
  | 100, _ => exact mf_100
  | 101, _ => exact mf_101
  | 102, _ => exact mf_102
  | 103, _ => exact mf_103
  | 104, _ => exact mf_104
  | 105, _ => exact mf_105
  | 106, _ => exact mf_106
  | 107, _ => exact mf_107
  | 108, _ => exact mf_108
  | 109, _ => exact mf_109
  | 110, _ => exact mf_110
  | 111, _ => exact mf_111
  | 112, _ => exact mf_112
  | 113, _ => exact mf_113
  | 114, _ => exact mf_114
  | 115, _ => exact mf_115
  | 116, _ => exact mf_116
  | 117, _ => exact mf_117
  | 118, _ => exact mf_118
  | 119, _ => exact mf_119
  | 120, _ => exact mf_120
  | 121, _ => exact mf_121
  | 122, _ => exact mf_122
  | 123, _ => exact mf_123
  | 124, _ => exact mf_124
  | 125, _ => exact mf_125
  | 126, _ => exact mf_126
  | 127, _ => exact mf_127
  | 128, _ => exact mf_128
  | 129, _ => exact mf_129
  | 130, _ => exact mf_130
  | 131, _ => exact mf_131
  | 132, _ => exact mf_132
  | 133, _ => exact mf_133
  | 134, _ => exact mf_134
  | 135, _ => exact mf_135
  | 136, _ => exact mf_136
  | 137, _ => exact mf_137
  | 138, _ => exact mf_138
  | 139, _ => exact mf_139
  | 140, _ => exact mf_140
  | 141, _ => exact mf_141
  | 142, _ => exact mf_142
  | 143, _ => exact mf_143
  | 144, _ => exact mf_144
  | 145, _ => exact mf_145
  | 146, _ => exact mf_146
  | 147, _ => exact mf_147
  | 148, _ => exact mf_148
  | 149, _ => exact mf_149
  | 150, _ => exact mf_150
  | 151, _ => exact mf_151
  | 152, _ => exact mf_152
  | 153, _ => exact mf_153
  | 154, _ => exact mf_154
  | 155, _ => exact mf_155
  | 156, _ => exact mf_156
  | 157, _ => exact mf_157
  | 158, _ => exact mf_158
  | 159, _ => exact mf_159
  | 160, _ => exact mf_160
  | 161, _ => exact mf_161
  | 162, _ => exact mf_162
  | 163, _ => exact mf_163
  | 164, _ => exact mf_164
  | 165, _ => exact mf_165
  | 166, _ => exact mf_166
  | 167, _ => exact mf_167
  | 168, _ => exact mf_168
  | 169, _ => exact mf_169
  | 170, _ => exact mf_170
  | 171, _ => exact mf_171
  | 172, _ => exact mf_172
  | 173, _ => exact mf_173
  | 174, _ => exact mf_174
  | 175, _ => exact mf_175
  | 176, _ => exact mf_176
  | 177, _ => exact mf_177
  | 178, _ => exact mf_178
  | 179, _ => exact mf_179
  | 180, _ => exact mf_180
  | 181, _ => exact mf_181
  | 182, _ => exact mf_182
  | 183, _ => exact mf_183
  | 184, _ => exact mf_184
  | 185, _ => exact mf_185
  | 186, _ => exact mf_186
  | 187, _ => exact mf_187
  | 188, _ => exact mf_188
  | 189, _ => exact mf_189
  | 190, _ => exact mf_190
  | 191, _ => exact mf_191
  | 192, _ => exact mf_192
  | 193, _ => exact mf_193
  | 194, _ => exact mf_194
  | 195, _ => exact mf_195
  | 196, _ => exact mf_196
  | 197, _ => exact mf_197
  | 198, _ => exact mf_198
  | 199, _ => exact mf_199
  | 200, _ => exact mf_200
  | 201, _ => exact mf_201
  | 202, _ => exact mf_202
  | 203, _ => exact mf_203
  | 204, _ => exact mf_204
  | 205, _ => exact mf_205
  | 206, _ => exact mf_206
  | 207, _ => exact mf_207
  | 208, _ => exact mf_208
  | 209, _ => exact mf_209
  | 210, _ => exact mf_210
  | 211, _ => exact mf_211
  | 212, _ => exact mf_212
  | 213, _ => exact mf_213
  | 214, _ => exact mf_214
  | 215, _ => exact mf_215
  | 216, _ => exact mf_216
  | 217, _ => exact mf_217
  | 218, _ => exact mf_218
  | 219, _ => exact mf_219
  | 220, _ => exact mf_220
  | 221, _ => exact mf_221
  | 222, _ => exact mf_222
  | 223, _ => exact mf_223
  | 224, _ => exact mf_224
  | 225, _ => exact mf_225
  | 226, _ => exact mf_226
  | 227, _ => exact mf_227
  | 228, _ => exact mf_228
  | 229, _ => exact mf_229
  | 230, _ => exact mf_230
  | 231, _ => exact mf_231
  | 232, _ => exact mf_232
  | 233, _ => exact mf_233
  | 234, _ => exact mf_234
  | 235, _ => exact mf_235
  | 236, _ => exact mf_236
  | 237, _ => exact mf_237
  | 238, _ => exact mf_238
  | 239, _ => exact mf_239
  | 240, _ => exact mf_240
  | 241, _ => exact mf_241
  | 242, _ => exact mf_242
  | 243, _ => exact mf_243
  | 244, _ => exact mf_244
  | 245, _ => exact mf_245
  | 246, _ => exact mf_246
  | 247, _ => exact mf_247
  | 248, _ => exact mf_248
  | 249, _ => exact mf_249
  | 250, _ => exact mf_250
  | 251, _ => exact mf_251
  | 252, _ => exact mf_252
  | 253, _ => exact mf_253
  | 254, _ => exact mf_254
  | 255, _ => exact mf_255
  | 256, _ => exact mf_256
  | 257, _ => exact mf_257
  | 258, _ => exact mf_258
  | 259, _ => exact mf_259
  | 260, _ => exact mf_260
  | 261, _ => exact mf_261
  | 262, _ => exact mf_262
  | 263, _ => exact mf_263
  | 264, _ => exact mf_264
  | 265, _ => exact mf_265
  | 266, _ => exact mf_266
  | 267, _ => exact mf_267
  | 268, _ => exact mf_268
  | 269, _ => exact mf_269
  | 270, _ => exact mf_270
  | 271, _ => exact mf_271
  | 272, _ => exact mf_272
  | 273, _ => exact mf_273
  | 274, _ => exact mf_274
  | 275, _ => exact mf_275
  | 276, _ => exact mf_276
  | 277, _ => exact mf_277
  | 278, _ => exact mf_278
  | 279, _ => exact mf_279
  | 280, _ => exact mf_280
  | 281, _ => exact mf_281
  | 282, _ => exact mf_282
  | 283, _ => exact mf_283
  | 284, _ => exact mf_284
  | 285, _ => exact mf_285
  | 286, _ => exact mf_286
  | 287, _ => exact mf_287
  | 288, _ => exact mf_288
  | k + 289, h => omega
