/-! What the Statement gives of the start, as the walks want it. (Own work; rows by a program of this repository.) -/
def mFl : List Cond := flatC (Jvm.Cond.and given_1 narrow_1)
theorem mN_at {args : Array Value} {s : State} (hv : (Jvm.Cond.and given_1 narrow_1).before args s = true) (i : Nat) {c : Cond} (h : mFl[i]? = some c) : c.before args s = true := flat_of_before _ hv _ (List.mem_of_getElem? h)
set_option maxRecDepth 8000 in
theorem mfo_0 : mFl[14]? = some (Cond.eq (.elem (.static "java/lang/Integer" "DigitOnes" "[B") (.int (Int32.ofNat 0))) (.int (nI (48 + 0 % 10)))) := rfl
set_option maxRecDepth 8000 in
theorem mfo_1 : mFl[15]? = some (Cond.eq (.elem (.static "java/lang/Integer" "DigitOnes" "[B") (.int (Int32.ofNat 1))) (.int (nI (48 + 1 % 10)))) := rfl
set_option maxRecDepth 8000 in
theorem mfo_2 : mFl[16]? = some (Cond.eq (.elem (.static "java/lang/Integer" "DigitOnes" "[B") (.int (Int32.ofNat 2))) (.int (nI (48 + 2 % 10)))) := rfl
set_option maxRecDepth 8000 in
theorem mfo_3 : mFl[17]? = some (Cond.eq (.elem (.static "java/lang/Integer" "DigitOnes" "[B") (.int (Int32.ofNat 3))) (.int (nI (48 + 3 % 10)))) := rfl
set_option maxRecDepth 8000 in
theorem mfo_4 : mFl[18]? = some (Cond.eq (.elem (.static "java/lang/Integer" "DigitOnes" "[B") (.int (Int32.ofNat 4))) (.int (nI (48 + 4 % 10)))) := rfl
set_option maxRecDepth 8000 in
theorem mfo_5 : mFl[19]? = some (Cond.eq (.elem (.static "java/lang/Integer" "DigitOnes" "[B") (.int (Int32.ofNat 5))) (.int (nI (48 + 5 % 10)))) := rfl
set_option maxRecDepth 8000 in
theorem mfo_6 : mFl[20]? = some (Cond.eq (.elem (.static "java/lang/Integer" "DigitOnes" "[B") (.int (Int32.ofNat 6))) (.int (nI (48 + 6 % 10)))) := rfl
set_option maxRecDepth 8000 in
theorem mfo_7 : mFl[21]? = some (Cond.eq (.elem (.static "java/lang/Integer" "DigitOnes" "[B") (.int (Int32.ofNat 7))) (.int (nI (48 + 7 % 10)))) := rfl
set_option maxRecDepth 8000 in
theorem mfo_8 : mFl[22]? = some (Cond.eq (.elem (.static "java/lang/Integer" "DigitOnes" "[B") (.int (Int32.ofNat 8))) (.int (nI (48 + 8 % 10)))) := rfl
set_option maxRecDepth 8000 in
theorem mfo_9 : mFl[23]? = some (Cond.eq (.elem (.static "java/lang/Integer" "DigitOnes" "[B") (.int (Int32.ofNat 9))) (.int (nI (48 + 9 % 10)))) := rfl
set_option maxRecDepth 8000 in
theorem mfo_10 : mFl[24]? = some (Cond.eq (.elem (.static "java/lang/Integer" "DigitOnes" "[B") (.int (Int32.ofNat 10))) (.int (nI (48 + 10 % 10)))) := rfl
set_option maxRecDepth 8000 in
theorem mfo_11 : mFl[25]? = some (Cond.eq (.elem (.static "java/lang/Integer" "DigitOnes" "[B") (.int (Int32.ofNat 11))) (.int (nI (48 + 11 % 10)))) := rfl
set_option maxRecDepth 8000 in
theorem mfo_12 : mFl[26]? = some (Cond.eq (.elem (.static "java/lang/Integer" "DigitOnes" "[B") (.int (Int32.ofNat 12))) (.int (nI (48 + 12 % 10)))) := rfl
set_option maxRecDepth 8000 in
theorem mfo_13 : mFl[27]? = some (Cond.eq (.elem (.static "java/lang/Integer" "DigitOnes" "[B") (.int (Int32.ofNat 13))) (.int (nI (48 + 13 % 10)))) := rfl
set_option maxRecDepth 8000 in
theorem mfo_14 : mFl[28]? = some (Cond.eq (.elem (.static "java/lang/Integer" "DigitOnes" "[B") (.int (Int32.ofNat 14))) (.int (nI (48 + 14 % 10)))) := rfl
set_option maxRecDepth 8000 in
theorem mfo_15 : mFl[29]? = some (Cond.eq (.elem (.static "java/lang/Integer" "DigitOnes" "[B") (.int (Int32.ofNat 15))) (.int (nI (48 + 15 % 10)))) := rfl
set_option maxRecDepth 8000 in
theorem mfo_16 : mFl[30]? = some (Cond.eq (.elem (.static "java/lang/Integer" "DigitOnes" "[B") (.int (Int32.ofNat 16))) (.int (nI (48 + 16 % 10)))) := rfl
set_option maxRecDepth 8000 in
theorem mfo_17 : mFl[31]? = some (Cond.eq (.elem (.static "java/lang/Integer" "DigitOnes" "[B") (.int (Int32.ofNat 17))) (.int (nI (48 + 17 % 10)))) := rfl
set_option maxRecDepth 8000 in
theorem mfo_18 : mFl[32]? = some (Cond.eq (.elem (.static "java/lang/Integer" "DigitOnes" "[B") (.int (Int32.ofNat 18))) (.int (nI (48 + 18 % 10)))) := rfl
set_option maxRecDepth 8000 in
theorem mfo_19 : mFl[33]? = some (Cond.eq (.elem (.static "java/lang/Integer" "DigitOnes" "[B") (.int (Int32.ofNat 19))) (.int (nI (48 + 19 % 10)))) := rfl
set_option maxRecDepth 8000 in
theorem mfo_20 : mFl[34]? = some (Cond.eq (.elem (.static "java/lang/Integer" "DigitOnes" "[B") (.int (Int32.ofNat 20))) (.int (nI (48 + 20 % 10)))) := rfl
set_option maxRecDepth 8000 in
theorem mfo_21 : mFl[35]? = some (Cond.eq (.elem (.static "java/lang/Integer" "DigitOnes" "[B") (.int (Int32.ofNat 21))) (.int (nI (48 + 21 % 10)))) := rfl
set_option maxRecDepth 8000 in
theorem mfo_22 : mFl[36]? = some (Cond.eq (.elem (.static "java/lang/Integer" "DigitOnes" "[B") (.int (Int32.ofNat 22))) (.int (nI (48 + 22 % 10)))) := rfl
set_option maxRecDepth 8000 in
theorem mfo_23 : mFl[37]? = some (Cond.eq (.elem (.static "java/lang/Integer" "DigitOnes" "[B") (.int (Int32.ofNat 23))) (.int (nI (48 + 23 % 10)))) := rfl
set_option maxRecDepth 8000 in
theorem mfo_24 : mFl[38]? = some (Cond.eq (.elem (.static "java/lang/Integer" "DigitOnes" "[B") (.int (Int32.ofNat 24))) (.int (nI (48 + 24 % 10)))) := rfl
set_option maxRecDepth 8000 in
theorem mfo_25 : mFl[39]? = some (Cond.eq (.elem (.static "java/lang/Integer" "DigitOnes" "[B") (.int (Int32.ofNat 25))) (.int (nI (48 + 25 % 10)))) := rfl
set_option maxRecDepth 8000 in
theorem mfo_26 : mFl[40]? = some (Cond.eq (.elem (.static "java/lang/Integer" "DigitOnes" "[B") (.int (Int32.ofNat 26))) (.int (nI (48 + 26 % 10)))) := rfl
set_option maxRecDepth 8000 in
theorem mfo_27 : mFl[41]? = some (Cond.eq (.elem (.static "java/lang/Integer" "DigitOnes" "[B") (.int (Int32.ofNat 27))) (.int (nI (48 + 27 % 10)))) := rfl
set_option maxRecDepth 8000 in
theorem mfo_28 : mFl[42]? = some (Cond.eq (.elem (.static "java/lang/Integer" "DigitOnes" "[B") (.int (Int32.ofNat 28))) (.int (nI (48 + 28 % 10)))) := rfl
set_option maxRecDepth 8000 in
theorem mfo_29 : mFl[43]? = some (Cond.eq (.elem (.static "java/lang/Integer" "DigitOnes" "[B") (.int (Int32.ofNat 29))) (.int (nI (48 + 29 % 10)))) := rfl
set_option maxRecDepth 8000 in
theorem mfo_30 : mFl[44]? = some (Cond.eq (.elem (.static "java/lang/Integer" "DigitOnes" "[B") (.int (Int32.ofNat 30))) (.int (nI (48 + 30 % 10)))) := rfl
set_option maxRecDepth 8000 in
theorem mfo_31 : mFl[45]? = some (Cond.eq (.elem (.static "java/lang/Integer" "DigitOnes" "[B") (.int (Int32.ofNat 31))) (.int (nI (48 + 31 % 10)))) := rfl
set_option maxRecDepth 8000 in
theorem mfo_32 : mFl[46]? = some (Cond.eq (.elem (.static "java/lang/Integer" "DigitOnes" "[B") (.int (Int32.ofNat 32))) (.int (nI (48 + 32 % 10)))) := rfl
set_option maxRecDepth 8000 in
theorem mfo_33 : mFl[47]? = some (Cond.eq (.elem (.static "java/lang/Integer" "DigitOnes" "[B") (.int (Int32.ofNat 33))) (.int (nI (48 + 33 % 10)))) := rfl
set_option maxRecDepth 8000 in
theorem mfo_34 : mFl[48]? = some (Cond.eq (.elem (.static "java/lang/Integer" "DigitOnes" "[B") (.int (Int32.ofNat 34))) (.int (nI (48 + 34 % 10)))) := rfl
set_option maxRecDepth 8000 in
theorem mfo_35 : mFl[49]? = some (Cond.eq (.elem (.static "java/lang/Integer" "DigitOnes" "[B") (.int (Int32.ofNat 35))) (.int (nI (48 + 35 % 10)))) := rfl
set_option maxRecDepth 8000 in
theorem mfo_36 : mFl[50]? = some (Cond.eq (.elem (.static "java/lang/Integer" "DigitOnes" "[B") (.int (Int32.ofNat 36))) (.int (nI (48 + 36 % 10)))) := rfl
set_option maxRecDepth 8000 in
theorem mfo_37 : mFl[51]? = some (Cond.eq (.elem (.static "java/lang/Integer" "DigitOnes" "[B") (.int (Int32.ofNat 37))) (.int (nI (48 + 37 % 10)))) := rfl
set_option maxRecDepth 8000 in
theorem mfo_38 : mFl[52]? = some (Cond.eq (.elem (.static "java/lang/Integer" "DigitOnes" "[B") (.int (Int32.ofNat 38))) (.int (nI (48 + 38 % 10)))) := rfl
set_option maxRecDepth 8000 in
theorem mfo_39 : mFl[53]? = some (Cond.eq (.elem (.static "java/lang/Integer" "DigitOnes" "[B") (.int (Int32.ofNat 39))) (.int (nI (48 + 39 % 10)))) := rfl
set_option maxRecDepth 8000 in
theorem mfo_40 : mFl[54]? = some (Cond.eq (.elem (.static "java/lang/Integer" "DigitOnes" "[B") (.int (Int32.ofNat 40))) (.int (nI (48 + 40 % 10)))) := rfl
set_option maxRecDepth 8000 in
theorem mfo_41 : mFl[55]? = some (Cond.eq (.elem (.static "java/lang/Integer" "DigitOnes" "[B") (.int (Int32.ofNat 41))) (.int (nI (48 + 41 % 10)))) := rfl
set_option maxRecDepth 8000 in
theorem mfo_42 : mFl[56]? = some (Cond.eq (.elem (.static "java/lang/Integer" "DigitOnes" "[B") (.int (Int32.ofNat 42))) (.int (nI (48 + 42 % 10)))) := rfl
set_option maxRecDepth 8000 in
theorem mfo_43 : mFl[57]? = some (Cond.eq (.elem (.static "java/lang/Integer" "DigitOnes" "[B") (.int (Int32.ofNat 43))) (.int (nI (48 + 43 % 10)))) := rfl
set_option maxRecDepth 8000 in
theorem mfo_44 : mFl[58]? = some (Cond.eq (.elem (.static "java/lang/Integer" "DigitOnes" "[B") (.int (Int32.ofNat 44))) (.int (nI (48 + 44 % 10)))) := rfl
set_option maxRecDepth 8000 in
theorem mfo_45 : mFl[59]? = some (Cond.eq (.elem (.static "java/lang/Integer" "DigitOnes" "[B") (.int (Int32.ofNat 45))) (.int (nI (48 + 45 % 10)))) := rfl
set_option maxRecDepth 8000 in
theorem mfo_46 : mFl[60]? = some (Cond.eq (.elem (.static "java/lang/Integer" "DigitOnes" "[B") (.int (Int32.ofNat 46))) (.int (nI (48 + 46 % 10)))) := rfl
set_option maxRecDepth 8000 in
theorem mfo_47 : mFl[61]? = some (Cond.eq (.elem (.static "java/lang/Integer" "DigitOnes" "[B") (.int (Int32.ofNat 47))) (.int (nI (48 + 47 % 10)))) := rfl
set_option maxRecDepth 8000 in
theorem mfo_48 : mFl[62]? = some (Cond.eq (.elem (.static "java/lang/Integer" "DigitOnes" "[B") (.int (Int32.ofNat 48))) (.int (nI (48 + 48 % 10)))) := rfl
set_option maxRecDepth 8000 in
theorem mfo_49 : mFl[63]? = some (Cond.eq (.elem (.static "java/lang/Integer" "DigitOnes" "[B") (.int (Int32.ofNat 49))) (.int (nI (48 + 49 % 10)))) := rfl
set_option maxRecDepth 8000 in
theorem mfo_50 : mFl[64]? = some (Cond.eq (.elem (.static "java/lang/Integer" "DigitOnes" "[B") (.int (Int32.ofNat 50))) (.int (nI (48 + 50 % 10)))) := rfl
set_option maxRecDepth 8000 in
theorem mfo_51 : mFl[65]? = some (Cond.eq (.elem (.static "java/lang/Integer" "DigitOnes" "[B") (.int (Int32.ofNat 51))) (.int (nI (48 + 51 % 10)))) := rfl
set_option maxRecDepth 8000 in
theorem mfo_52 : mFl[66]? = some (Cond.eq (.elem (.static "java/lang/Integer" "DigitOnes" "[B") (.int (Int32.ofNat 52))) (.int (nI (48 + 52 % 10)))) := rfl
set_option maxRecDepth 8000 in
theorem mfo_53 : mFl[67]? = some (Cond.eq (.elem (.static "java/lang/Integer" "DigitOnes" "[B") (.int (Int32.ofNat 53))) (.int (nI (48 + 53 % 10)))) := rfl
set_option maxRecDepth 8000 in
theorem mfo_54 : mFl[68]? = some (Cond.eq (.elem (.static "java/lang/Integer" "DigitOnes" "[B") (.int (Int32.ofNat 54))) (.int (nI (48 + 54 % 10)))) := rfl
set_option maxRecDepth 8000 in
theorem mfo_55 : mFl[69]? = some (Cond.eq (.elem (.static "java/lang/Integer" "DigitOnes" "[B") (.int (Int32.ofNat 55))) (.int (nI (48 + 55 % 10)))) := rfl
set_option maxRecDepth 8000 in
theorem mfo_56 : mFl[70]? = some (Cond.eq (.elem (.static "java/lang/Integer" "DigitOnes" "[B") (.int (Int32.ofNat 56))) (.int (nI (48 + 56 % 10)))) := rfl
set_option maxRecDepth 8000 in
theorem mfo_57 : mFl[71]? = some (Cond.eq (.elem (.static "java/lang/Integer" "DigitOnes" "[B") (.int (Int32.ofNat 57))) (.int (nI (48 + 57 % 10)))) := rfl
set_option maxRecDepth 8000 in
theorem mfo_58 : mFl[72]? = some (Cond.eq (.elem (.static "java/lang/Integer" "DigitOnes" "[B") (.int (Int32.ofNat 58))) (.int (nI (48 + 58 % 10)))) := rfl
set_option maxRecDepth 8000 in
theorem mfo_59 : mFl[73]? = some (Cond.eq (.elem (.static "java/lang/Integer" "DigitOnes" "[B") (.int (Int32.ofNat 59))) (.int (nI (48 + 59 % 10)))) := rfl
set_option maxRecDepth 8000 in
theorem mfo_60 : mFl[74]? = some (Cond.eq (.elem (.static "java/lang/Integer" "DigitOnes" "[B") (.int (Int32.ofNat 60))) (.int (nI (48 + 60 % 10)))) := rfl
set_option maxRecDepth 8000 in
theorem mfo_61 : mFl[75]? = some (Cond.eq (.elem (.static "java/lang/Integer" "DigitOnes" "[B") (.int (Int32.ofNat 61))) (.int (nI (48 + 61 % 10)))) := rfl
set_option maxRecDepth 8000 in
theorem mfo_62 : mFl[76]? = some (Cond.eq (.elem (.static "java/lang/Integer" "DigitOnes" "[B") (.int (Int32.ofNat 62))) (.int (nI (48 + 62 % 10)))) := rfl
set_option maxRecDepth 8000 in
theorem mfo_63 : mFl[77]? = some (Cond.eq (.elem (.static "java/lang/Integer" "DigitOnes" "[B") (.int (Int32.ofNat 63))) (.int (nI (48 + 63 % 10)))) := rfl
set_option maxRecDepth 8000 in
theorem mfo_64 : mFl[78]? = some (Cond.eq (.elem (.static "java/lang/Integer" "DigitOnes" "[B") (.int (Int32.ofNat 64))) (.int (nI (48 + 64 % 10)))) := rfl
set_option maxRecDepth 8000 in
theorem mfo_65 : mFl[79]? = some (Cond.eq (.elem (.static "java/lang/Integer" "DigitOnes" "[B") (.int (Int32.ofNat 65))) (.int (nI (48 + 65 % 10)))) := rfl
set_option maxRecDepth 8000 in
theorem mfo_66 : mFl[80]? = some (Cond.eq (.elem (.static "java/lang/Integer" "DigitOnes" "[B") (.int (Int32.ofNat 66))) (.int (nI (48 + 66 % 10)))) := rfl
set_option maxRecDepth 8000 in
theorem mfo_67 : mFl[81]? = some (Cond.eq (.elem (.static "java/lang/Integer" "DigitOnes" "[B") (.int (Int32.ofNat 67))) (.int (nI (48 + 67 % 10)))) := rfl
set_option maxRecDepth 8000 in
theorem mfo_68 : mFl[82]? = some (Cond.eq (.elem (.static "java/lang/Integer" "DigitOnes" "[B") (.int (Int32.ofNat 68))) (.int (nI (48 + 68 % 10)))) := rfl
set_option maxRecDepth 8000 in
theorem mfo_69 : mFl[83]? = some (Cond.eq (.elem (.static "java/lang/Integer" "DigitOnes" "[B") (.int (Int32.ofNat 69))) (.int (nI (48 + 69 % 10)))) := rfl
set_option maxRecDepth 8000 in
theorem mfo_70 : mFl[84]? = some (Cond.eq (.elem (.static "java/lang/Integer" "DigitOnes" "[B") (.int (Int32.ofNat 70))) (.int (nI (48 + 70 % 10)))) := rfl
set_option maxRecDepth 8000 in
theorem mfo_71 : mFl[85]? = some (Cond.eq (.elem (.static "java/lang/Integer" "DigitOnes" "[B") (.int (Int32.ofNat 71))) (.int (nI (48 + 71 % 10)))) := rfl
set_option maxRecDepth 8000 in
theorem mfo_72 : mFl[86]? = some (Cond.eq (.elem (.static "java/lang/Integer" "DigitOnes" "[B") (.int (Int32.ofNat 72))) (.int (nI (48 + 72 % 10)))) := rfl
set_option maxRecDepth 8000 in
theorem mfo_73 : mFl[87]? = some (Cond.eq (.elem (.static "java/lang/Integer" "DigitOnes" "[B") (.int (Int32.ofNat 73))) (.int (nI (48 + 73 % 10)))) := rfl
set_option maxRecDepth 8000 in
theorem mfo_74 : mFl[88]? = some (Cond.eq (.elem (.static "java/lang/Integer" "DigitOnes" "[B") (.int (Int32.ofNat 74))) (.int (nI (48 + 74 % 10)))) := rfl
set_option maxRecDepth 8000 in
theorem mfo_75 : mFl[89]? = some (Cond.eq (.elem (.static "java/lang/Integer" "DigitOnes" "[B") (.int (Int32.ofNat 75))) (.int (nI (48 + 75 % 10)))) := rfl
set_option maxRecDepth 8000 in
theorem mfo_76 : mFl[90]? = some (Cond.eq (.elem (.static "java/lang/Integer" "DigitOnes" "[B") (.int (Int32.ofNat 76))) (.int (nI (48 + 76 % 10)))) := rfl
set_option maxRecDepth 8000 in
theorem mfo_77 : mFl[91]? = some (Cond.eq (.elem (.static "java/lang/Integer" "DigitOnes" "[B") (.int (Int32.ofNat 77))) (.int (nI (48 + 77 % 10)))) := rfl
set_option maxRecDepth 8000 in
theorem mfo_78 : mFl[92]? = some (Cond.eq (.elem (.static "java/lang/Integer" "DigitOnes" "[B") (.int (Int32.ofNat 78))) (.int (nI (48 + 78 % 10)))) := rfl
set_option maxRecDepth 8000 in
theorem mfo_79 : mFl[93]? = some (Cond.eq (.elem (.static "java/lang/Integer" "DigitOnes" "[B") (.int (Int32.ofNat 79))) (.int (nI (48 + 79 % 10)))) := rfl
set_option maxRecDepth 8000 in
theorem mfo_80 : mFl[94]? = some (Cond.eq (.elem (.static "java/lang/Integer" "DigitOnes" "[B") (.int (Int32.ofNat 80))) (.int (nI (48 + 80 % 10)))) := rfl
set_option maxRecDepth 8000 in
theorem mfo_81 : mFl[95]? = some (Cond.eq (.elem (.static "java/lang/Integer" "DigitOnes" "[B") (.int (Int32.ofNat 81))) (.int (nI (48 + 81 % 10)))) := rfl
set_option maxRecDepth 8000 in
theorem mfo_82 : mFl[96]? = some (Cond.eq (.elem (.static "java/lang/Integer" "DigitOnes" "[B") (.int (Int32.ofNat 82))) (.int (nI (48 + 82 % 10)))) := rfl
set_option maxRecDepth 8000 in
theorem mfo_83 : mFl[97]? = some (Cond.eq (.elem (.static "java/lang/Integer" "DigitOnes" "[B") (.int (Int32.ofNat 83))) (.int (nI (48 + 83 % 10)))) := rfl
set_option maxRecDepth 8000 in
theorem mfo_84 : mFl[98]? = some (Cond.eq (.elem (.static "java/lang/Integer" "DigitOnes" "[B") (.int (Int32.ofNat 84))) (.int (nI (48 + 84 % 10)))) := rfl
set_option maxRecDepth 8000 in
theorem mfo_85 : mFl[99]? = some (Cond.eq (.elem (.static "java/lang/Integer" "DigitOnes" "[B") (.int (Int32.ofNat 85))) (.int (nI (48 + 85 % 10)))) := rfl
set_option maxRecDepth 8000 in
theorem mfo_86 : mFl[100]? = some (Cond.eq (.elem (.static "java/lang/Integer" "DigitOnes" "[B") (.int (Int32.ofNat 86))) (.int (nI (48 + 86 % 10)))) := rfl
set_option maxRecDepth 8000 in
theorem mfo_87 : mFl[101]? = some (Cond.eq (.elem (.static "java/lang/Integer" "DigitOnes" "[B") (.int (Int32.ofNat 87))) (.int (nI (48 + 87 % 10)))) := rfl
set_option maxRecDepth 8000 in
theorem mfo_88 : mFl[102]? = some (Cond.eq (.elem (.static "java/lang/Integer" "DigitOnes" "[B") (.int (Int32.ofNat 88))) (.int (nI (48 + 88 % 10)))) := rfl
set_option maxRecDepth 8000 in
theorem mfo_89 : mFl[103]? = some (Cond.eq (.elem (.static "java/lang/Integer" "DigitOnes" "[B") (.int (Int32.ofNat 89))) (.int (nI (48 + 89 % 10)))) := rfl
set_option maxRecDepth 8000 in
theorem mfo_90 : mFl[104]? = some (Cond.eq (.elem (.static "java/lang/Integer" "DigitOnes" "[B") (.int (Int32.ofNat 90))) (.int (nI (48 + 90 % 10)))) := rfl
set_option maxRecDepth 8000 in
theorem mfo_91 : mFl[105]? = some (Cond.eq (.elem (.static "java/lang/Integer" "DigitOnes" "[B") (.int (Int32.ofNat 91))) (.int (nI (48 + 91 % 10)))) := rfl
set_option maxRecDepth 8000 in
theorem mfo_92 : mFl[106]? = some (Cond.eq (.elem (.static "java/lang/Integer" "DigitOnes" "[B") (.int (Int32.ofNat 92))) (.int (nI (48 + 92 % 10)))) := rfl
set_option maxRecDepth 8000 in
theorem mfo_93 : mFl[107]? = some (Cond.eq (.elem (.static "java/lang/Integer" "DigitOnes" "[B") (.int (Int32.ofNat 93))) (.int (nI (48 + 93 % 10)))) := rfl
set_option maxRecDepth 8000 in
theorem mfo_94 : mFl[108]? = some (Cond.eq (.elem (.static "java/lang/Integer" "DigitOnes" "[B") (.int (Int32.ofNat 94))) (.int (nI (48 + 94 % 10)))) := rfl
set_option maxRecDepth 8000 in
theorem mfo_95 : mFl[109]? = some (Cond.eq (.elem (.static "java/lang/Integer" "DigitOnes" "[B") (.int (Int32.ofNat 95))) (.int (nI (48 + 95 % 10)))) := rfl
set_option maxRecDepth 8000 in
theorem mfo_96 : mFl[110]? = some (Cond.eq (.elem (.static "java/lang/Integer" "DigitOnes" "[B") (.int (Int32.ofNat 96))) (.int (nI (48 + 96 % 10)))) := rfl
set_option maxRecDepth 8000 in
theorem mfo_97 : mFl[111]? = some (Cond.eq (.elem (.static "java/lang/Integer" "DigitOnes" "[B") (.int (Int32.ofNat 97))) (.int (nI (48 + 97 % 10)))) := rfl
set_option maxRecDepth 8000 in
theorem mfo_98 : mFl[112]? = some (Cond.eq (.elem (.static "java/lang/Integer" "DigitOnes" "[B") (.int (Int32.ofNat 98))) (.int (nI (48 + 98 % 10)))) := rfl
set_option maxRecDepth 8000 in
theorem mfo_99 : mFl[113]? = some (Cond.eq (.elem (.static "java/lang/Integer" "DigitOnes" "[B") (.int (Int32.ofNat 99))) (.int (nI (48 + 99 % 10)))) := rfl
theorem mfo : ∀ j, j < 100 → mFl[14 + j]? = some (Cond.eq (.elem (.static "java/lang/Integer" "DigitOnes" "[B") (.int (Int32.ofNat j))) (.int (nI (48 + j % 10))))
  | 0, _ => mfo_0
  | 1, _ => mfo_1
  | 2, _ => mfo_2
  | 3, _ => mfo_3
  | 4, _ => mfo_4
  | 5, _ => mfo_5
  | 6, _ => mfo_6
  | 7, _ => mfo_7
  | 8, _ => mfo_8
  | 9, _ => mfo_9
  | 10, _ => mfo_10
  | 11, _ => mfo_11
  | 12, _ => mfo_12
  | 13, _ => mfo_13
  | 14, _ => mfo_14
  | 15, _ => mfo_15
  | 16, _ => mfo_16
  | 17, _ => mfo_17
  | 18, _ => mfo_18
  | 19, _ => mfo_19
  | 20, _ => mfo_20
  | 21, _ => mfo_21
  | 22, _ => mfo_22
  | 23, _ => mfo_23
  | 24, _ => mfo_24
  | 25, _ => mfo_25
  | 26, _ => mfo_26
  | 27, _ => mfo_27
  | 28, _ => mfo_28
  | 29, _ => mfo_29
  | 30, _ => mfo_30
  | 31, _ => mfo_31
  | 32, _ => mfo_32
  | 33, _ => mfo_33
  | 34, _ => mfo_34
  | 35, _ => mfo_35
  | 36, _ => mfo_36
  | 37, _ => mfo_37
  | 38, _ => mfo_38
  | 39, _ => mfo_39
  | 40, _ => mfo_40
  | 41, _ => mfo_41
  | 42, _ => mfo_42
  | 43, _ => mfo_43
  | 44, _ => mfo_44
  | 45, _ => mfo_45
  | 46, _ => mfo_46
  | 47, _ => mfo_47
  | 48, _ => mfo_48
  | 49, _ => mfo_49
  | 50, _ => mfo_50
  | 51, _ => mfo_51
  | 52, _ => mfo_52
  | 53, _ => mfo_53
  | 54, _ => mfo_54
  | 55, _ => mfo_55
  | 56, _ => mfo_56
  | 57, _ => mfo_57
  | 58, _ => mfo_58
  | 59, _ => mfo_59
  | 60, _ => mfo_60
  | 61, _ => mfo_61
  | 62, _ => mfo_62
  | 63, _ => mfo_63
  | 64, _ => mfo_64
  | 65, _ => mfo_65
  | 66, _ => mfo_66
  | 67, _ => mfo_67
  | 68, _ => mfo_68
  | 69, _ => mfo_69
  | 70, _ => mfo_70
  | 71, _ => mfo_71
  | 72, _ => mfo_72
  | 73, _ => mfo_73
  | 74, _ => mfo_74
  | 75, _ => mfo_75
  | 76, _ => mfo_76
  | 77, _ => mfo_77
  | 78, _ => mfo_78
  | 79, _ => mfo_79
  | 80, _ => mfo_80
  | 81, _ => mfo_81
  | 82, _ => mfo_82
  | 83, _ => mfo_83
  | 84, _ => mfo_84
  | 85, _ => mfo_85
  | 86, _ => mfo_86
  | 87, _ => mfo_87
  | 88, _ => mfo_88
  | 89, _ => mfo_89
  | 90, _ => mfo_90
  | 91, _ => mfo_91
  | 92, _ => mfo_92
  | 93, _ => mfo_93
  | 94, _ => mfo_94
  | 95, _ => mfo_95
  | 96, _ => mfo_96
  | 97, _ => mfo_97
  | 98, _ => mfo_98
  | 99, _ => mfo_99
  | j + 100, h => absurd h (by omega)
set_option maxRecDepth 8000 in
theorem mft_0 : mFl[117]? = some (Cond.eq (.elem (.static "java/lang/Integer" "DigitTens" "[B") (.int (Int32.ofNat 0))) (.int (nI (48 + 0 / 10)))) := rfl
set_option maxRecDepth 8000 in
theorem mft_1 : mFl[118]? = some (Cond.eq (.elem (.static "java/lang/Integer" "DigitTens" "[B") (.int (Int32.ofNat 1))) (.int (nI (48 + 1 / 10)))) := rfl
set_option maxRecDepth 8000 in
theorem mft_2 : mFl[119]? = some (Cond.eq (.elem (.static "java/lang/Integer" "DigitTens" "[B") (.int (Int32.ofNat 2))) (.int (nI (48 + 2 / 10)))) := rfl
set_option maxRecDepth 8000 in
theorem mft_3 : mFl[120]? = some (Cond.eq (.elem (.static "java/lang/Integer" "DigitTens" "[B") (.int (Int32.ofNat 3))) (.int (nI (48 + 3 / 10)))) := rfl
set_option maxRecDepth 8000 in
theorem mft_4 : mFl[121]? = some (Cond.eq (.elem (.static "java/lang/Integer" "DigitTens" "[B") (.int (Int32.ofNat 4))) (.int (nI (48 + 4 / 10)))) := rfl
set_option maxRecDepth 8000 in
theorem mft_5 : mFl[122]? = some (Cond.eq (.elem (.static "java/lang/Integer" "DigitTens" "[B") (.int (Int32.ofNat 5))) (.int (nI (48 + 5 / 10)))) := rfl
set_option maxRecDepth 8000 in
theorem mft_6 : mFl[123]? = some (Cond.eq (.elem (.static "java/lang/Integer" "DigitTens" "[B") (.int (Int32.ofNat 6))) (.int (nI (48 + 6 / 10)))) := rfl
set_option maxRecDepth 8000 in
theorem mft_7 : mFl[124]? = some (Cond.eq (.elem (.static "java/lang/Integer" "DigitTens" "[B") (.int (Int32.ofNat 7))) (.int (nI (48 + 7 / 10)))) := rfl
set_option maxRecDepth 8000 in
theorem mft_8 : mFl[125]? = some (Cond.eq (.elem (.static "java/lang/Integer" "DigitTens" "[B") (.int (Int32.ofNat 8))) (.int (nI (48 + 8 / 10)))) := rfl
set_option maxRecDepth 8000 in
theorem mft_9 : mFl[126]? = some (Cond.eq (.elem (.static "java/lang/Integer" "DigitTens" "[B") (.int (Int32.ofNat 9))) (.int (nI (48 + 9 / 10)))) := rfl
set_option maxRecDepth 8000 in
theorem mft_10 : mFl[127]? = some (Cond.eq (.elem (.static "java/lang/Integer" "DigitTens" "[B") (.int (Int32.ofNat 10))) (.int (nI (48 + 10 / 10)))) := rfl
set_option maxRecDepth 8000 in
theorem mft_11 : mFl[128]? = some (Cond.eq (.elem (.static "java/lang/Integer" "DigitTens" "[B") (.int (Int32.ofNat 11))) (.int (nI (48 + 11 / 10)))) := rfl
set_option maxRecDepth 8000 in
theorem mft_12 : mFl[129]? = some (Cond.eq (.elem (.static "java/lang/Integer" "DigitTens" "[B") (.int (Int32.ofNat 12))) (.int (nI (48 + 12 / 10)))) := rfl
set_option maxRecDepth 8000 in
theorem mft_13 : mFl[130]? = some (Cond.eq (.elem (.static "java/lang/Integer" "DigitTens" "[B") (.int (Int32.ofNat 13))) (.int (nI (48 + 13 / 10)))) := rfl
set_option maxRecDepth 8000 in
theorem mft_14 : mFl[131]? = some (Cond.eq (.elem (.static "java/lang/Integer" "DigitTens" "[B") (.int (Int32.ofNat 14))) (.int (nI (48 + 14 / 10)))) := rfl
set_option maxRecDepth 8000 in
theorem mft_15 : mFl[132]? = some (Cond.eq (.elem (.static "java/lang/Integer" "DigitTens" "[B") (.int (Int32.ofNat 15))) (.int (nI (48 + 15 / 10)))) := rfl
set_option maxRecDepth 8000 in
theorem mft_16 : mFl[133]? = some (Cond.eq (.elem (.static "java/lang/Integer" "DigitTens" "[B") (.int (Int32.ofNat 16))) (.int (nI (48 + 16 / 10)))) := rfl
set_option maxRecDepth 8000 in
theorem mft_17 : mFl[134]? = some (Cond.eq (.elem (.static "java/lang/Integer" "DigitTens" "[B") (.int (Int32.ofNat 17))) (.int (nI (48 + 17 / 10)))) := rfl
set_option maxRecDepth 8000 in
theorem mft_18 : mFl[135]? = some (Cond.eq (.elem (.static "java/lang/Integer" "DigitTens" "[B") (.int (Int32.ofNat 18))) (.int (nI (48 + 18 / 10)))) := rfl
set_option maxRecDepth 8000 in
theorem mft_19 : mFl[136]? = some (Cond.eq (.elem (.static "java/lang/Integer" "DigitTens" "[B") (.int (Int32.ofNat 19))) (.int (nI (48 + 19 / 10)))) := rfl
set_option maxRecDepth 8000 in
theorem mft_20 : mFl[137]? = some (Cond.eq (.elem (.static "java/lang/Integer" "DigitTens" "[B") (.int (Int32.ofNat 20))) (.int (nI (48 + 20 / 10)))) := rfl
set_option maxRecDepth 8000 in
theorem mft_21 : mFl[138]? = some (Cond.eq (.elem (.static "java/lang/Integer" "DigitTens" "[B") (.int (Int32.ofNat 21))) (.int (nI (48 + 21 / 10)))) := rfl
set_option maxRecDepth 8000 in
theorem mft_22 : mFl[139]? = some (Cond.eq (.elem (.static "java/lang/Integer" "DigitTens" "[B") (.int (Int32.ofNat 22))) (.int (nI (48 + 22 / 10)))) := rfl
set_option maxRecDepth 8000 in
theorem mft_23 : mFl[140]? = some (Cond.eq (.elem (.static "java/lang/Integer" "DigitTens" "[B") (.int (Int32.ofNat 23))) (.int (nI (48 + 23 / 10)))) := rfl
set_option maxRecDepth 8000 in
theorem mft_24 : mFl[141]? = some (Cond.eq (.elem (.static "java/lang/Integer" "DigitTens" "[B") (.int (Int32.ofNat 24))) (.int (nI (48 + 24 / 10)))) := rfl
set_option maxRecDepth 8000 in
theorem mft_25 : mFl[142]? = some (Cond.eq (.elem (.static "java/lang/Integer" "DigitTens" "[B") (.int (Int32.ofNat 25))) (.int (nI (48 + 25 / 10)))) := rfl
set_option maxRecDepth 8000 in
theorem mft_26 : mFl[143]? = some (Cond.eq (.elem (.static "java/lang/Integer" "DigitTens" "[B") (.int (Int32.ofNat 26))) (.int (nI (48 + 26 / 10)))) := rfl
set_option maxRecDepth 8000 in
theorem mft_27 : mFl[144]? = some (Cond.eq (.elem (.static "java/lang/Integer" "DigitTens" "[B") (.int (Int32.ofNat 27))) (.int (nI (48 + 27 / 10)))) := rfl
set_option maxRecDepth 8000 in
theorem mft_28 : mFl[145]? = some (Cond.eq (.elem (.static "java/lang/Integer" "DigitTens" "[B") (.int (Int32.ofNat 28))) (.int (nI (48 + 28 / 10)))) := rfl
set_option maxRecDepth 8000 in
theorem mft_29 : mFl[146]? = some (Cond.eq (.elem (.static "java/lang/Integer" "DigitTens" "[B") (.int (Int32.ofNat 29))) (.int (nI (48 + 29 / 10)))) := rfl
set_option maxRecDepth 8000 in
theorem mft_30 : mFl[147]? = some (Cond.eq (.elem (.static "java/lang/Integer" "DigitTens" "[B") (.int (Int32.ofNat 30))) (.int (nI (48 + 30 / 10)))) := rfl
set_option maxRecDepth 8000 in
theorem mft_31 : mFl[148]? = some (Cond.eq (.elem (.static "java/lang/Integer" "DigitTens" "[B") (.int (Int32.ofNat 31))) (.int (nI (48 + 31 / 10)))) := rfl
set_option maxRecDepth 8000 in
theorem mft_32 : mFl[149]? = some (Cond.eq (.elem (.static "java/lang/Integer" "DigitTens" "[B") (.int (Int32.ofNat 32))) (.int (nI (48 + 32 / 10)))) := rfl
set_option maxRecDepth 8000 in
theorem mft_33 : mFl[150]? = some (Cond.eq (.elem (.static "java/lang/Integer" "DigitTens" "[B") (.int (Int32.ofNat 33))) (.int (nI (48 + 33 / 10)))) := rfl
set_option maxRecDepth 8000 in
theorem mft_34 : mFl[151]? = some (Cond.eq (.elem (.static "java/lang/Integer" "DigitTens" "[B") (.int (Int32.ofNat 34))) (.int (nI (48 + 34 / 10)))) := rfl
set_option maxRecDepth 8000 in
theorem mft_35 : mFl[152]? = some (Cond.eq (.elem (.static "java/lang/Integer" "DigitTens" "[B") (.int (Int32.ofNat 35))) (.int (nI (48 + 35 / 10)))) := rfl
set_option maxRecDepth 8000 in
theorem mft_36 : mFl[153]? = some (Cond.eq (.elem (.static "java/lang/Integer" "DigitTens" "[B") (.int (Int32.ofNat 36))) (.int (nI (48 + 36 / 10)))) := rfl
set_option maxRecDepth 8000 in
theorem mft_37 : mFl[154]? = some (Cond.eq (.elem (.static "java/lang/Integer" "DigitTens" "[B") (.int (Int32.ofNat 37))) (.int (nI (48 + 37 / 10)))) := rfl
set_option maxRecDepth 8000 in
theorem mft_38 : mFl[155]? = some (Cond.eq (.elem (.static "java/lang/Integer" "DigitTens" "[B") (.int (Int32.ofNat 38))) (.int (nI (48 + 38 / 10)))) := rfl
set_option maxRecDepth 8000 in
theorem mft_39 : mFl[156]? = some (Cond.eq (.elem (.static "java/lang/Integer" "DigitTens" "[B") (.int (Int32.ofNat 39))) (.int (nI (48 + 39 / 10)))) := rfl
set_option maxRecDepth 8000 in
theorem mft_40 : mFl[157]? = some (Cond.eq (.elem (.static "java/lang/Integer" "DigitTens" "[B") (.int (Int32.ofNat 40))) (.int (nI (48 + 40 / 10)))) := rfl
set_option maxRecDepth 8000 in
theorem mft_41 : mFl[158]? = some (Cond.eq (.elem (.static "java/lang/Integer" "DigitTens" "[B") (.int (Int32.ofNat 41))) (.int (nI (48 + 41 / 10)))) := rfl
set_option maxRecDepth 8000 in
theorem mft_42 : mFl[159]? = some (Cond.eq (.elem (.static "java/lang/Integer" "DigitTens" "[B") (.int (Int32.ofNat 42))) (.int (nI (48 + 42 / 10)))) := rfl
set_option maxRecDepth 8000 in
theorem mft_43 : mFl[160]? = some (Cond.eq (.elem (.static "java/lang/Integer" "DigitTens" "[B") (.int (Int32.ofNat 43))) (.int (nI (48 + 43 / 10)))) := rfl
set_option maxRecDepth 8000 in
theorem mft_44 : mFl[161]? = some (Cond.eq (.elem (.static "java/lang/Integer" "DigitTens" "[B") (.int (Int32.ofNat 44))) (.int (nI (48 + 44 / 10)))) := rfl
set_option maxRecDepth 8000 in
theorem mft_45 : mFl[162]? = some (Cond.eq (.elem (.static "java/lang/Integer" "DigitTens" "[B") (.int (Int32.ofNat 45))) (.int (nI (48 + 45 / 10)))) := rfl
set_option maxRecDepth 8000 in
theorem mft_46 : mFl[163]? = some (Cond.eq (.elem (.static "java/lang/Integer" "DigitTens" "[B") (.int (Int32.ofNat 46))) (.int (nI (48 + 46 / 10)))) := rfl
set_option maxRecDepth 8000 in
theorem mft_47 : mFl[164]? = some (Cond.eq (.elem (.static "java/lang/Integer" "DigitTens" "[B") (.int (Int32.ofNat 47))) (.int (nI (48 + 47 / 10)))) := rfl
set_option maxRecDepth 8000 in
theorem mft_48 : mFl[165]? = some (Cond.eq (.elem (.static "java/lang/Integer" "DigitTens" "[B") (.int (Int32.ofNat 48))) (.int (nI (48 + 48 / 10)))) := rfl
set_option maxRecDepth 8000 in
theorem mft_49 : mFl[166]? = some (Cond.eq (.elem (.static "java/lang/Integer" "DigitTens" "[B") (.int (Int32.ofNat 49))) (.int (nI (48 + 49 / 10)))) := rfl
set_option maxRecDepth 8000 in
theorem mft_50 : mFl[167]? = some (Cond.eq (.elem (.static "java/lang/Integer" "DigitTens" "[B") (.int (Int32.ofNat 50))) (.int (nI (48 + 50 / 10)))) := rfl
set_option maxRecDepth 8000 in
theorem mft_51 : mFl[168]? = some (Cond.eq (.elem (.static "java/lang/Integer" "DigitTens" "[B") (.int (Int32.ofNat 51))) (.int (nI (48 + 51 / 10)))) := rfl
set_option maxRecDepth 8000 in
theorem mft_52 : mFl[169]? = some (Cond.eq (.elem (.static "java/lang/Integer" "DigitTens" "[B") (.int (Int32.ofNat 52))) (.int (nI (48 + 52 / 10)))) := rfl
set_option maxRecDepth 8000 in
theorem mft_53 : mFl[170]? = some (Cond.eq (.elem (.static "java/lang/Integer" "DigitTens" "[B") (.int (Int32.ofNat 53))) (.int (nI (48 + 53 / 10)))) := rfl
set_option maxRecDepth 8000 in
theorem mft_54 : mFl[171]? = some (Cond.eq (.elem (.static "java/lang/Integer" "DigitTens" "[B") (.int (Int32.ofNat 54))) (.int (nI (48 + 54 / 10)))) := rfl
set_option maxRecDepth 8000 in
theorem mft_55 : mFl[172]? = some (Cond.eq (.elem (.static "java/lang/Integer" "DigitTens" "[B") (.int (Int32.ofNat 55))) (.int (nI (48 + 55 / 10)))) := rfl
set_option maxRecDepth 8000 in
theorem mft_56 : mFl[173]? = some (Cond.eq (.elem (.static "java/lang/Integer" "DigitTens" "[B") (.int (Int32.ofNat 56))) (.int (nI (48 + 56 / 10)))) := rfl
set_option maxRecDepth 8000 in
theorem mft_57 : mFl[174]? = some (Cond.eq (.elem (.static "java/lang/Integer" "DigitTens" "[B") (.int (Int32.ofNat 57))) (.int (nI (48 + 57 / 10)))) := rfl
set_option maxRecDepth 8000 in
theorem mft_58 : mFl[175]? = some (Cond.eq (.elem (.static "java/lang/Integer" "DigitTens" "[B") (.int (Int32.ofNat 58))) (.int (nI (48 + 58 / 10)))) := rfl
set_option maxRecDepth 8000 in
theorem mft_59 : mFl[176]? = some (Cond.eq (.elem (.static "java/lang/Integer" "DigitTens" "[B") (.int (Int32.ofNat 59))) (.int (nI (48 + 59 / 10)))) := rfl
set_option maxRecDepth 8000 in
theorem mft_60 : mFl[177]? = some (Cond.eq (.elem (.static "java/lang/Integer" "DigitTens" "[B") (.int (Int32.ofNat 60))) (.int (nI (48 + 60 / 10)))) := rfl
set_option maxRecDepth 8000 in
theorem mft_61 : mFl[178]? = some (Cond.eq (.elem (.static "java/lang/Integer" "DigitTens" "[B") (.int (Int32.ofNat 61))) (.int (nI (48 + 61 / 10)))) := rfl
set_option maxRecDepth 8000 in
theorem mft_62 : mFl[179]? = some (Cond.eq (.elem (.static "java/lang/Integer" "DigitTens" "[B") (.int (Int32.ofNat 62))) (.int (nI (48 + 62 / 10)))) := rfl
set_option maxRecDepth 8000 in
theorem mft_63 : mFl[180]? = some (Cond.eq (.elem (.static "java/lang/Integer" "DigitTens" "[B") (.int (Int32.ofNat 63))) (.int (nI (48 + 63 / 10)))) := rfl
set_option maxRecDepth 8000 in
theorem mft_64 : mFl[181]? = some (Cond.eq (.elem (.static "java/lang/Integer" "DigitTens" "[B") (.int (Int32.ofNat 64))) (.int (nI (48 + 64 / 10)))) := rfl
set_option maxRecDepth 8000 in
theorem mft_65 : mFl[182]? = some (Cond.eq (.elem (.static "java/lang/Integer" "DigitTens" "[B") (.int (Int32.ofNat 65))) (.int (nI (48 + 65 / 10)))) := rfl
set_option maxRecDepth 8000 in
theorem mft_66 : mFl[183]? = some (Cond.eq (.elem (.static "java/lang/Integer" "DigitTens" "[B") (.int (Int32.ofNat 66))) (.int (nI (48 + 66 / 10)))) := rfl
set_option maxRecDepth 8000 in
theorem mft_67 : mFl[184]? = some (Cond.eq (.elem (.static "java/lang/Integer" "DigitTens" "[B") (.int (Int32.ofNat 67))) (.int (nI (48 + 67 / 10)))) := rfl
set_option maxRecDepth 8000 in
theorem mft_68 : mFl[185]? = some (Cond.eq (.elem (.static "java/lang/Integer" "DigitTens" "[B") (.int (Int32.ofNat 68))) (.int (nI (48 + 68 / 10)))) := rfl
set_option maxRecDepth 8000 in
theorem mft_69 : mFl[186]? = some (Cond.eq (.elem (.static "java/lang/Integer" "DigitTens" "[B") (.int (Int32.ofNat 69))) (.int (nI (48 + 69 / 10)))) := rfl
set_option maxRecDepth 8000 in
theorem mft_70 : mFl[187]? = some (Cond.eq (.elem (.static "java/lang/Integer" "DigitTens" "[B") (.int (Int32.ofNat 70))) (.int (nI (48 + 70 / 10)))) := rfl
set_option maxRecDepth 8000 in
theorem mft_71 : mFl[188]? = some (Cond.eq (.elem (.static "java/lang/Integer" "DigitTens" "[B") (.int (Int32.ofNat 71))) (.int (nI (48 + 71 / 10)))) := rfl
set_option maxRecDepth 8000 in
theorem mft_72 : mFl[189]? = some (Cond.eq (.elem (.static "java/lang/Integer" "DigitTens" "[B") (.int (Int32.ofNat 72))) (.int (nI (48 + 72 / 10)))) := rfl
set_option maxRecDepth 8000 in
theorem mft_73 : mFl[190]? = some (Cond.eq (.elem (.static "java/lang/Integer" "DigitTens" "[B") (.int (Int32.ofNat 73))) (.int (nI (48 + 73 / 10)))) := rfl
set_option maxRecDepth 8000 in
theorem mft_74 : mFl[191]? = some (Cond.eq (.elem (.static "java/lang/Integer" "DigitTens" "[B") (.int (Int32.ofNat 74))) (.int (nI (48 + 74 / 10)))) := rfl
set_option maxRecDepth 8000 in
theorem mft_75 : mFl[192]? = some (Cond.eq (.elem (.static "java/lang/Integer" "DigitTens" "[B") (.int (Int32.ofNat 75))) (.int (nI (48 + 75 / 10)))) := rfl
set_option maxRecDepth 8000 in
theorem mft_76 : mFl[193]? = some (Cond.eq (.elem (.static "java/lang/Integer" "DigitTens" "[B") (.int (Int32.ofNat 76))) (.int (nI (48 + 76 / 10)))) := rfl
set_option maxRecDepth 8000 in
theorem mft_77 : mFl[194]? = some (Cond.eq (.elem (.static "java/lang/Integer" "DigitTens" "[B") (.int (Int32.ofNat 77))) (.int (nI (48 + 77 / 10)))) := rfl
set_option maxRecDepth 8000 in
theorem mft_78 : mFl[195]? = some (Cond.eq (.elem (.static "java/lang/Integer" "DigitTens" "[B") (.int (Int32.ofNat 78))) (.int (nI (48 + 78 / 10)))) := rfl
set_option maxRecDepth 8000 in
theorem mft_79 : mFl[196]? = some (Cond.eq (.elem (.static "java/lang/Integer" "DigitTens" "[B") (.int (Int32.ofNat 79))) (.int (nI (48 + 79 / 10)))) := rfl
set_option maxRecDepth 8000 in
theorem mft_80 : mFl[197]? = some (Cond.eq (.elem (.static "java/lang/Integer" "DigitTens" "[B") (.int (Int32.ofNat 80))) (.int (nI (48 + 80 / 10)))) := rfl
set_option maxRecDepth 8000 in
theorem mft_81 : mFl[198]? = some (Cond.eq (.elem (.static "java/lang/Integer" "DigitTens" "[B") (.int (Int32.ofNat 81))) (.int (nI (48 + 81 / 10)))) := rfl
set_option maxRecDepth 8000 in
theorem mft_82 : mFl[199]? = some (Cond.eq (.elem (.static "java/lang/Integer" "DigitTens" "[B") (.int (Int32.ofNat 82))) (.int (nI (48 + 82 / 10)))) := rfl
set_option maxRecDepth 8000 in
theorem mft_83 : mFl[200]? = some (Cond.eq (.elem (.static "java/lang/Integer" "DigitTens" "[B") (.int (Int32.ofNat 83))) (.int (nI (48 + 83 / 10)))) := rfl
set_option maxRecDepth 8000 in
theorem mft_84 : mFl[201]? = some (Cond.eq (.elem (.static "java/lang/Integer" "DigitTens" "[B") (.int (Int32.ofNat 84))) (.int (nI (48 + 84 / 10)))) := rfl
set_option maxRecDepth 8000 in
theorem mft_85 : mFl[202]? = some (Cond.eq (.elem (.static "java/lang/Integer" "DigitTens" "[B") (.int (Int32.ofNat 85))) (.int (nI (48 + 85 / 10)))) := rfl
set_option maxRecDepth 8000 in
theorem mft_86 : mFl[203]? = some (Cond.eq (.elem (.static "java/lang/Integer" "DigitTens" "[B") (.int (Int32.ofNat 86))) (.int (nI (48 + 86 / 10)))) := rfl
set_option maxRecDepth 8000 in
theorem mft_87 : mFl[204]? = some (Cond.eq (.elem (.static "java/lang/Integer" "DigitTens" "[B") (.int (Int32.ofNat 87))) (.int (nI (48 + 87 / 10)))) := rfl
set_option maxRecDepth 8000 in
theorem mft_88 : mFl[205]? = some (Cond.eq (.elem (.static "java/lang/Integer" "DigitTens" "[B") (.int (Int32.ofNat 88))) (.int (nI (48 + 88 / 10)))) := rfl
set_option maxRecDepth 8000 in
theorem mft_89 : mFl[206]? = some (Cond.eq (.elem (.static "java/lang/Integer" "DigitTens" "[B") (.int (Int32.ofNat 89))) (.int (nI (48 + 89 / 10)))) := rfl
set_option maxRecDepth 8000 in
theorem mft_90 : mFl[207]? = some (Cond.eq (.elem (.static "java/lang/Integer" "DigitTens" "[B") (.int (Int32.ofNat 90))) (.int (nI (48 + 90 / 10)))) := rfl
set_option maxRecDepth 8000 in
theorem mft_91 : mFl[208]? = some (Cond.eq (.elem (.static "java/lang/Integer" "DigitTens" "[B") (.int (Int32.ofNat 91))) (.int (nI (48 + 91 / 10)))) := rfl
set_option maxRecDepth 8000 in
theorem mft_92 : mFl[209]? = some (Cond.eq (.elem (.static "java/lang/Integer" "DigitTens" "[B") (.int (Int32.ofNat 92))) (.int (nI (48 + 92 / 10)))) := rfl
set_option maxRecDepth 8000 in
theorem mft_93 : mFl[210]? = some (Cond.eq (.elem (.static "java/lang/Integer" "DigitTens" "[B") (.int (Int32.ofNat 93))) (.int (nI (48 + 93 / 10)))) := rfl
set_option maxRecDepth 8000 in
theorem mft_94 : mFl[211]? = some (Cond.eq (.elem (.static "java/lang/Integer" "DigitTens" "[B") (.int (Int32.ofNat 94))) (.int (nI (48 + 94 / 10)))) := rfl
set_option maxRecDepth 8000 in
theorem mft_95 : mFl[212]? = some (Cond.eq (.elem (.static "java/lang/Integer" "DigitTens" "[B") (.int (Int32.ofNat 95))) (.int (nI (48 + 95 / 10)))) := rfl
set_option maxRecDepth 8000 in
theorem mft_96 : mFl[213]? = some (Cond.eq (.elem (.static "java/lang/Integer" "DigitTens" "[B") (.int (Int32.ofNat 96))) (.int (nI (48 + 96 / 10)))) := rfl
set_option maxRecDepth 8000 in
theorem mft_97 : mFl[214]? = some (Cond.eq (.elem (.static "java/lang/Integer" "DigitTens" "[B") (.int (Int32.ofNat 97))) (.int (nI (48 + 97 / 10)))) := rfl
set_option maxRecDepth 8000 in
theorem mft_98 : mFl[215]? = some (Cond.eq (.elem (.static "java/lang/Integer" "DigitTens" "[B") (.int (Int32.ofNat 98))) (.int (nI (48 + 98 / 10)))) := rfl
set_option maxRecDepth 8000 in
theorem mft_99 : mFl[216]? = some (Cond.eq (.elem (.static "java/lang/Integer" "DigitTens" "[B") (.int (Int32.ofNat 99))) (.int (nI (48 + 99 / 10)))) := rfl
theorem mft : ∀ j, j < 100 → mFl[117 + j]? = some (Cond.eq (.elem (.static "java/lang/Integer" "DigitTens" "[B") (.int (Int32.ofNat j))) (.int (nI (48 + j / 10))))
  | 0, _ => mft_0
  | 1, _ => mft_1
  | 2, _ => mft_2
  | 3, _ => mft_3
  | 4, _ => mft_4
  | 5, _ => mft_5
  | 6, _ => mft_6
  | 7, _ => mft_7
  | 8, _ => mft_8
  | 9, _ => mft_9
  | 10, _ => mft_10
  | 11, _ => mft_11
  | 12, _ => mft_12
  | 13, _ => mft_13
  | 14, _ => mft_14
  | 15, _ => mft_15
  | 16, _ => mft_16
  | 17, _ => mft_17
  | 18, _ => mft_18
  | 19, _ => mft_19
  | 20, _ => mft_20
  | 21, _ => mft_21
  | 22, _ => mft_22
  | 23, _ => mft_23
  | 24, _ => mft_24
  | 25, _ => mft_25
  | 26, _ => mft_26
  | 27, _ => mft_27
  | 28, _ => mft_28
  | 29, _ => mft_29
  | 30, _ => mft_30
  | 31, _ => mft_31
  | 32, _ => mft_32
  | 33, _ => mft_33
  | 34, _ => mft_34
  | 35, _ => mft_35
  | 36, _ => mft_36
  | 37, _ => mft_37
  | 38, _ => mft_38
  | 39, _ => mft_39
  | 40, _ => mft_40
  | 41, _ => mft_41
  | 42, _ => mft_42
  | 43, _ => mft_43
  | 44, _ => mft_44
  | 45, _ => mft_45
  | 46, _ => mft_46
  | 47, _ => mft_47
  | 48, _ => mft_48
  | 49, _ => mft_49
  | 50, _ => mft_50
  | 51, _ => mft_51
  | 52, _ => mft_52
  | 53, _ => mft_53
  | 54, _ => mft_54
  | 55, _ => mft_55
  | 56, _ => mft_56
  | 57, _ => mft_57
  | 58, _ => mft_58
  | 59, _ => mft_59
  | 60, _ => mft_60
  | 61, _ => mft_61
  | 62, _ => mft_62
  | 63, _ => mft_63
  | 64, _ => mft_64
  | 65, _ => mft_65
  | 66, _ => mft_66
  | 67, _ => mft_67
  | 68, _ => mft_68
  | 69, _ => mft_69
  | 70, _ => mft_70
  | 71, _ => mft_71
  | 72, _ => mft_72
  | 73, _ => mft_73
  | 74, _ => mft_74
  | 75, _ => mft_75
  | 76, _ => mft_76
  | 77, _ => mft_77
  | 78, _ => mft_78
  | 79, _ => mft_79
  | 80, _ => mft_80
  | 81, _ => mft_81
  | 82, _ => mft_82
  | 83, _ => mft_83
  | 84, _ => mft_84
  | 85, _ => mft_85
  | 86, _ => mft_86
  | 87, _ => mft_87
  | 88, _ => mft_88
  | 89, _ => mft_89
  | 90, _ => mft_90
  | 91, _ => mft_91
  | 92, _ => mft_92
  | 93, _ => mft_93
  | 94, _ => mft_94
  | 95, _ => mft_95
  | 96, _ => mft_96
  | 97, _ => mft_97
  | 98, _ => mft_98
  | 99, _ => mft_99
  | j + 100, h => absurd h (by omega)
section MSTART
variable {args : Array Value} {s : State} {A : Nat → Prop}
theorem mTab_start {C n : String} {f : Nat → Int32} (hl : (Cond.laysStatic C n "[B").before args s = true) (hini : (Cond.initialized C).before args s = true) (harr : (Cond.arrayOf (.static C n "[B") .byte).before args s = true) (hlen : (Cond.eq (.length (.static C n "[B")) (.int (Int32.ofNat 100))).before args s = true) (hel : ∀ j, j < 100 → (Cond.eq (.elem (.static C n "[B") (.int (Int32.ofNat j))) (.int (f j))).before args s = true) (hA : ∀ a : Nat, a < s.heap.size → ¬ A a) : mTab C n f A s s.heap := by
  obtain ⟨t, h1, h2⟩ := va_Tof (N := 100) (f := fun j => .int (f j)) (by decide) harr (va_eqt hlen) (fun j hj => va_eqt (hel j hj)) hA
  exact ⟨t, va_Zof hl hini h1 hA, h2⟩
theorem mStr_start {own tx : String} {k : Nat} (h1 : (Cond.stringRef own k tx).before args s = true) (h2 : (Cond.exactly (.string own k) "java/lang/String").before args s = true) : ∃ a : Nat, vk_R own k tx a s ∧ (Term.string own k).eval args s none [] s = some (.ref a) := by
  obtain ⟨a2, c, cA, kA, q1, -⟩ := Cond.exactly_spec (args := args) (first := s) (o := none) (s := s) (idx := []) h2
  exact ⟨a2, vk_R.of h1 q1, q1⟩
theorem mst_start (hv : (Jvm.Cond.and given_1 narrow_1).before args s = true) (hts : ∀ w ∈ lw_tbl, w.before args s = true) (hA : ∀ a : Nat, a < s.heap.size → ¬ A a) : mst A s := by
  have tb : ∀ (i : Nat) {w : Cond}, lw_tbl[i]? = some w → w.before args s = true := fun i w h => hts w (List.mem_of_getElem? h)
  obtain ⟨a1, h1, -⟩ := mStr_start (own := RX2) (k := 252) (tx := "there is no such one") (tb 201 (by decide +kernel)) (mN_at hv 231 rfl)
  obtain ⟨a2, h2, -⟩ := mStr_start (own := RX2) (k := 259) (tx := "a number is not within its limits") (tb 402 (by decide +kernel)) (mN_at hv 255 rfl)
  obtain ⟨a, h3, q3⟩ := mStr_start (own := RX4) (k := 119) (tx := "") (tb 1176 (by decide +kernel)) (mN_at hv 302 rfl)
  obtain ⟨v, q4, h4⟩ := va_Tof (s := s) (args := args) (A := A) (tm := .field (.string RX4 119) "java/lang/String" "value" "[B") (ty := .byte) (N := 0) (f := fun _ => .int 0) (by decide) (mN_at hv 304 rfl) (va_eqt (z := Int32.ofNat 0) (mN_at hv 305 rfl)) (fun j hj => absurd hj (Nat.not_lt_zero j)) hA
  have hn : (Cond.initialized "java/lang/Integer").before args s = true := tb 60 (by decide +kernel)
  have ht : (Cond.initialized Bundle.tN).before args s = true := tb 44 (by decide +kernel)
  refine ⟨⟨a1, h1⟩, ⟨a2, h2⟩, vx_Zqof (tb 188 (by decide +kernel)) ht (mN_at hv 4 rfl) hA, vx_Zqof (tb 190 (by decide +kernel)) ht (mN_at hv 5 rfl) hA, va_Zof (tb 533 (by decide +kernel)) (tb 52 (by decide +kernel)) (va_eqi (mN_at hv 6 rfl)) hA, mTab_start (tb 744 (by decide +kernel)) hn (mN_at hv 12 rfl) (mN_at hv 13 rfl) (fun j hj => mN_at hv _ (mfo j hj)) hA, mTab_start (tb 746 (by decide +kernel)) hn (mN_at hv 115 rfl) (mN_at hv 116 rfl) (fun j hj => mN_at hv _ (mft j hj)) hA, a, v, h3, va_Oof (mN_at hv 302 rfl) q3 hA, vk_OFof q3 (va_eqt (mN_at hv 303 rfl)) hA, vk_OFof q3 q4 hA, h4⟩
theorem mNc_start (hv : (Jvm.Cond.and given_1 narrow_1).before args s = true) : mNc A s := va_Nc.of (mN_at hv 221 rfl)
theorem marr_start {ty : FieldType} (h : (Cond.arrayClass ty).before args s = true) (hra : ∀ c : ClassId, s.vm.findClass ("[" ++ ty.toString) = some c → va_RA s c ty) : ∃ cA : ClassId, ArrOfT s cA ty ∧ va_RA s cA ty := by
  obtain ⟨c, k9, comp, h1, h2, h3⟩ := Cond.arrayClass_spec h
  exact ⟨c, fun n z => ⟨fun k h => (by cases h), k9, h2, comp, h3⟩, hra c h1⟩
theorem mcs_start (hm : ∀ w ∈ mW, w.before args s = true) : ∃ cs : ClassId × ClassId × ClassId, ∀ (k : Nat) (q : ClassId × FieldType), (mTy cs)[k]? = some q → ArrOfT s q.1 q.2 ∧ va_RA s q.1 q.2 := by
  obtain ⟨c1, h1⟩ := marr_start (ty := .int) (hm _ ka_int) (fun c h => h)
  obtain ⟨c2, h2⟩ := marr_start (ty := .long) (hm _ ka_long) (fun c h => h)
  obtain ⟨comp, c3, k, g1, g2, g3, g4, g5⟩ := Cond.arrayOver_spec (hm _ kao)
  refine ⟨(c1, c2, c3), fun k9 q hq => ?_⟩
  match k9, hq with
  | 0, hq => cases hq; exact h1
  | 1, hq => cases hq; exact h2
  | 2, hq => cases hq; exact ⟨fun n z => ⟨fun k h => (by cases h), k, g3, comp, g4⟩, k, comp, g3, g4, g1, g5⟩
  | k9 + 3, hq => exact absurd hq (fun h => nomatch h)
theorem mkn_start (hm : ∀ w ∈ mW, w.before args s = true) : ∃ D : va_G, ∀ (c : Nat) (q : vw_C), vwCl[c]? = some q → u_Kn s q.1 q.2.1 q.2.2 (D.1 c) (D.2 c) := by
  obtain ⟨c0, i0, n0⟩ := u_known (C := RJ0) (T := TJ0) (N := 4) (n := 4) hm kinJ0 (hm _ (mW_at 696 (by decide +kernel) (by decide +kernel)))
  obtain ⟨c1, i1, n1⟩ := u_known (C := RJ4) (T := TJ4) (N := 4) (n := 4) hm kinJ4 (hm _ (mW_at 524 (by decide +kernel) (by decide +kernel)))
  obtain ⟨c2, i2, n2⟩ := u_known (C := RX1) (T := TX1) (N := 3) (n := 3) hm kinX1 (hm _ ki_X1)
  obtain ⟨c3, i3, n3⟩ := u_known (C := RX2) (T := TX2) (N := 8) (n := 8) hm kinX2 (hm _ ki_X2)
  obtain ⟨c4, i4, n4⟩ := u_known (C := RX3) (T := TX3) (N := 2) (n := 2) hm kinX3 (hm _ ki_X3)
  obtain ⟨c5, i5, n5⟩ := u_known (C := RX4) (T := TX4) (N := 9) (n := 9) hm kinX4 (hm _ ki_X4)
  refine ⟨(fun k => [c0, c1, c2, c3, c4, c5].getD k c0, fun k => [i0, i1, i2, i3, i4, i5].getD k i0), fun k q hq => ?_⟩
  match k, hq with
  | 0, hq => cases hq; exact n0
  | 1, hq => cases hq; exact n1
  | 2, hq => cases hq; exact n2
  | 3, hq => cases hq; exact n3
  | 4, hq => cases hq; exact n4
  | 5, hq => cases hq; exact n5
  | k + 6, hq => exact absurd hq (fun h => nomatch h)
end MSTART
