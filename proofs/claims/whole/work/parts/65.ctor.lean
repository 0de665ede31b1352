theorem ac_int : Cond.arrayClass .int ∈ tb_ := mem_tb 98 (by decide +kernel) rfl
theorem ac_long : Cond.arrayClass .long ∈ tb_ := mem_tb 1032 (by decide +kernel) rfl
theorem oi_inst : Cond.instanceMethod Lib.objectInit ∈ tb_ := mem_tb 73 (by decide +kernel) rfl
theorem oi_code : Cond.code Lib.objectInit ⟨#[0xb1]⟩ 1 none ∈ tb_ := mem_tb 74 (by decide +kernel) rfl
theorem miRX0_3 : Cond.methodLink RX0 3 Lib.objectInit ∈ tb_ := mem_tb 144 (by decide +kernel) rfl
theorem frRX0_9 : Fr RX0 9 0 0 true := ⟨RX0, TX0, 4, tyX0, .array .int, rfl, by decide, tbX0, mem_tb 147 (by decide +kernel) rfl, rfl, by decide +kernel, tyX0_ok, nmX0, rfl, fun _ => rfl, fun _ => rfl⟩
theorem frRX0_15 : Fr RX0 15 0 1 true := ⟨RX0, TX0, 4, tyX0, .array .int, rfl, by decide, tbX0, mem_tb 148 (by decide +kernel) rfl, rfl, by decide +kernel, tyX0_ok, nmX0, rfl, fun _ => rfl, fun _ => rfl⟩
theorem frRX0_18 : Fr RX0 18 0 2 true := ⟨RX0, TX0, 4, tyX0, .array .int, rfl, by decide, tbX0, mem_tb 149 (by decide +kernel) rfl, rfl, by decide +kernel, tyX0_ok, nmX0, rfl, fun _ => rfl, fun _ => rfl⟩
theorem frRX0_21 : Fr RX0 21 0 3 true := ⟨RX0, TX0, 4, tyX0, .array .int, rfl, by decide, tbX0, mem_tb 150 (by decide +kernel) rfl, rfl, by decide +kernel, tyX0_ok, nmX0, rfl, fun _ => rfl, fun _ => rfl⟩
theorem miRX1_3 : Cond.methodLink RX1 3 Lib.objectInit ∈ tb_ := mem_tb 104 (by decide +kernel) rfl
theorem fpRX1_9 : Fp RX1 9 1 0 .int := ⟨RX1, TX1, 17, tyX1, rfl, by decide, tbX1, mem_tb 160 (by decide +kernel) rfl, rfl, by decide +kernel, tyX1_ok, nmX1⟩
theorem fpRX1_15 : Fp RX1 15 1 1 .int := ⟨RX1, TX1, 17, tyX1, rfl, by decide, tbX1, mem_tb 162 (by decide +kernel) rfl, rfl, by decide +kernel, tyX1_ok, nmX1⟩
theorem fpRX1_18 : Fp RX1 18 1 2 .int := ⟨RX1, TX1, 17, tyX1, rfl, by decide, tbX1, mem_tb 164 (by decide +kernel) rfl, rfl, by decide +kernel, tyX1_ok, nmX1⟩
theorem fpRX1_21 : Fp RX1 21 1 3 .boolean := ⟨RX1, TX1, 17, tyX1, rfl, by decide, tbX1, mem_tb 166 (by decide +kernel) rfl, rfl, by decide +kernel, tyX1_ok, nmX1⟩
theorem nwRX1_25 : Nw RX1 25 3 2 [.null, .int 0] := ⟨RX3, TX3, tyX3, rfl, tbX3, tyX3_ok, mem_tb 105 (by decide +kernel) rfl, mem_tb 76 (by decide +kernel) rfl, mem_tb 53 (by decide +kernel) rfl, by decide +kernel, fun _ => rfl⟩
theorem miRX1_27 : Cond.methodLink RX1 27 yX3_init ∈ tb_ := mem_tb 106 (by decide +kernel) rfl
theorem frRX1_30 : Fr RX1 30 1 4 true := ⟨RX1, TX1, 17, tyX1, .object "SheetKeys$Row", rfl, by decide, tbX1, mem_tb 168 (by decide +kernel) rfl, rfl, by decide +kernel, tyX1_ok, nmX1, rfl, fun _ => rfl, fun _ => rfl⟩
theorem frRX1_34 : Fr RX1 34 1 5 true := ⟨RX1, TX1, 17, tyX1, .object "SheetKeys$Row", rfl, by decide, tbX1, mem_tb 170 (by decide +kernel) rfl, rfl, by decide +kernel, tyX1_ok, nmX1, rfl, fun _ => rfl, fun _ => rfl⟩
theorem frRX1_37 : Fr RX1 37 1 6 true := ⟨RX1, TX1, 17, tyX1, .object "SheetKeys$Row", rfl, by decide, tbX1, mem_tb 172 (by decide +kernel) rfl, rfl, by decide +kernel, tyX1_ok, nmX1, rfl, fun _ => rfl, fun _ => rfl⟩
theorem frRX1_40 : Fr RX1 40 1 7 true := ⟨RX1, TX1, 17, tyX1, .object "SheetKeys$Row", rfl, by decide, tbX1, mem_tb 173 (by decide +kernel) rfl, rfl, by decide +kernel, tyX1_ok, nmX1, rfl, fun _ => rfl, fun _ => rfl⟩
theorem frRX1_43 : Fr RX1 43 1 8 true := ⟨RX1, TX1, 17, tyX1, .object "SheetKeys$Row", rfl, by decide, tbX1, mem_tb 174 (by decide +kernel) rfl, rfl, by decide +kernel, tyX1_ok, nmX1, rfl, fun _ => rfl, fun _ => rfl⟩
theorem frRX1_46 : Fr RX1 46 1 9 true := ⟨RX1, TX1, 17, tyX1, .object "SheetKeys$Row", rfl, by decide, tbX1, mem_tb 175 (by decide +kernel) rfl, rfl, by decide +kernel, tyX1_ok, nmX1, rfl, fun _ => rfl, fun _ => rfl⟩
theorem nwRX1_49 : Nw RX1 49 2 5 [.null, .int 0, .int 0, .int 0, .int 0] := ⟨RX2, TX2, tyX2, rfl, tbX2, tyX2_ok, mem_tb 107 (by decide +kernel) rfl, mem_tb 108 (by decide +kernel) rfl, mem_tb 55 (by decide +kernel) rfl, by decide +kernel, fun _ => rfl⟩
theorem frRX1_52 : Fr RX1 52 1 10 true := ⟨RX1, TX1, 17, tyX1, .object "SheetKeys$Hasher", rfl, by decide, tbX1, mem_tb 177 (by decide +kernel) rfl, rfl, by decide +kernel, tyX1_ok, nmX1, rfl, fun _ => rfl, fun _ => rfl⟩
theorem nwRX1_56 : Nw RX1 56 4 1 [.null] := ⟨RX4, TX4, tyX4, rfl, tbX4, tyX4_ok, mem_tb 129 (by decide +kernel) rfl, mem_tb 130 (by decide +kernel) rfl, mem_tb 56 (by decide +kernel) rfl, by decide +kernel, fun _ => rfl⟩
theorem frRX1_59 : Fr RX1 59 1 11 true := ⟨RX1, TX1, 17, tyX1, .object "SheetKeys$Streamer", rfl, by decide, tbX1, mem_tb 179 (by decide +kernel) rfl, rfl, by decide +kernel, tyX1_ok, nmX1, rfl, fun _ => rfl, fun _ => rfl⟩
theorem nwRX1_63 : Nw RX1 63 0 4 [.null, .null, .null, .null] := ⟨RX0, TX0, tyX0, rfl, tbX0, tyX0_ok, mem_tb 139 (by decide +kernel) rfl, mem_tb 140 (by decide +kernel) rfl, mem_tb 57 (by decide +kernel) rfl, by decide +kernel, fun _ => rfl⟩
theorem miRX1_65 : Cond.methodLink RX1 65 yX0_init ∈ tb_ := mem_tb 141 (by decide +kernel) rfl
theorem frRX1_66 : Fr RX1 66 1 12 true := ⟨RX1, TX1, 17, tyX1, .object "SheetKeys$Blocks", rfl, by decide, tbX1, mem_tb 181 (by decide +kernel) rfl, rfl, by decide +kernel, tyX1_ok, nmX1, rfl, fun _ => rfl, fun _ => rfl⟩
theorem frRX1_70 : Fr RX1 70 1 13 true := ⟨RX1, TX1, 17, tyX1, .object "SheetKeys$Row", rfl, by decide, tbX1, mem_tb 183 (by decide +kernel) rfl, rfl, by decide +kernel, tyX1_ok, nmX1, rfl, fun _ => rfl, fun _ => rfl⟩
theorem frRX1_73 : Fr RX1 73 1 14 true := ⟨RX1, TX1, 17, tyX1, .object "SheetKeys$Row", rfl, by decide, tbX1, mem_tb 184 (by decide +kernel) rfl, rfl, by decide +kernel, tyX1_ok, nmX1, rfl, fun _ => rfl, fun _ => rfl⟩
theorem frRX1_76 : Fr RX1 76 1 15 true := ⟨RX1, TX1, 17, tyX1, .object "SheetKeys$Row", rfl, by decide, tbX1, mem_tb 185 (by decide +kernel) rfl, rfl, by decide +kernel, tyX1_ok, nmX1, rfl, fun _ => rfl, fun _ => rfl⟩
theorem frRX1_79 : Fr RX1 79 1 16 true := ⟨RX1, TX1, 17, tyX1, .object "SheetKeys$Row", rfl, by decide, tbX1, mem_tb 186 (by decide +kernel) rfl, rfl, by decide +kernel, tyX1_ok, nmX1, rfl, fun _ => rfl, fun _ => rfl⟩
theorem fpRX1_82 : Fp RX1 82 3 1 .int := ⟨RX3, TX3, 2, tyX3, rfl, by decide, tbX3, mem_tb 87 (by decide +kernel) rfl, rfl, by decide +kernel, tyX3_ok, nmX3⟩
theorem miRX2_1 : Cond.methodLink RX2 1 Lib.objectInit ∈ tb_ := mem_tb 112 (by decide +kernel) rfl
theorem frRX2_7 : Fr RX2 7 2 0 true := ⟨RX2, TX2, 5, tyX2, .array .int, rfl, by decide, tbX2, mem_tb 113 (by decide +kernel) rfl, rfl, by decide +kernel, tyX2_ok, nmX2, rfl, fun _ => rfl, fun _ => rfl⟩
theorem miRX3_3 : Cond.methodLink RX3 3 Lib.objectInit ∈ tb_ := mem_tb 80 (by decide +kernel) rfl
theorem frRX3_9 : Fr RX3 9 3 0 true := ⟨RX3, TX3, 2, tyX3, .array .int, rfl, by decide, tbX3, mem_tb 81 (by decide +kernel) rfl, rfl, by decide +kernel, tyX3_ok, nmX3, rfl, fun _ => rfl, fun _ => rfl⟩
theorem miRX4_1 : Cond.methodLink RX4 1 Lib.objectInit ∈ tb_ := mem_tb 134 (by decide +kernel) rfl
theorem frRX4_7 : Fr RX4 7 4 0 true := ⟨RX4, TX4, 1, tyX4, .array .int, rfl, by decide, tbX4, mem_tb 135 (by decide +kernel) rfl, rfl, by decide +kernel, tyX4_ok, nmX4, rfl, fun _ => rfl, fun _ => rfl⟩
theorem miRX5_1 : Cond.methodLink RX5 1 Lib.objectInit ∈ tb_ := mem_tb 72 (by decide +kernel) rfl
theorem nwRX5_7 : Nw RX5 7 3 2 [.null, .int 0] := ⟨RX3, TX3, tyX3, rfl, tbX3, tyX3_ok, mem_tb 75 (by decide +kernel) rfl, mem_tb 76 (by decide +kernel) rfl, mem_tb 53 (by decide +kernel) rfl, by decide +kernel, fun _ => rfl⟩
theorem miRX5_11 : Cond.methodLink RX5 11 yX3_init ∈ tb_ := mem_tb 77 (by decide +kernel) rfl
theorem frRX5_14 : Fr RX5 14 5 0 true := ⟨RX5, TX5, 3, tyX5, .object "SheetKeys$Row", rfl, by decide, tbX5, mem_tb 222 (by decide +kernel) rfl, rfl, by decide +kernel, tyX5_ok, nmX5, rfl, fun _ => rfl, fun _ => rfl⟩
theorem frRX5_18 : Fr RX5 18 5 1 true := ⟨RX5, TX5, 3, tyX5, .object "SheetKeys$Row", rfl, by decide, tbX5, mem_tb 223 (by decide +kernel) rfl, rfl, by decide +kernel, tyX5_ok, nmX5, rfl, fun _ => rfl, fun _ => rfl⟩
theorem nwRX5_21 : Nw RX5 21 1 17 [.int 0, .int 0, .int 0, .int 0, .null, .null, .null, .null, .null, .null, .null, .null, .null, .null, .null, .null, .null] := ⟨RX1, TX1, tyX1, rfl, tbX1, tyX1_ok, mem_tb 99 (by decide +kernel) rfl, mem_tb 100 (by decide +kernel) rfl, mem_tb 54 (by decide +kernel) rfl, by decide +kernel, fun _ => rfl⟩
theorem miRX5_23 : Cond.methodLink RX5 23 yX1_init ∈ tb_ := mem_tb 101 (by decide +kernel) rfl
theorem frRX5_24 : Fr RX5 24 5 2 true := ⟨RX5, TX5, 3, tyX5, .object "SheetKeys$Handler", rfl, by decide, tbX5, mem_tb 224 (by decide +kernel) rfl, rfl, by decide +kernel, tyX5_ok, nmX5, rfl, fun _ => rfl, fun _ => rfl⟩
theorem miRX6_1 : Cond.methodLink RX6 1 Lib.objectInit ∈ tb_ := mem_tb 648 (by decide +kernel) rfl
theorem frRX6_7 : Fr RX6 7 6 2 true := ⟨RX6, TX6, 36, tyX6, .array .int, rfl, by decide, tbX6, mem_tb 715 (by decide +kernel) rfl, rfl, by decide +kernel, tyX6_ok, nmX6, rfl, fun _ => rfl, fun _ => rfl⟩
theorem frRX6_13 : Fr RX6 13 6 4 true := ⟨RX6, TX6, 36, tyX6, .array .int, rfl, by decide, tbX6, mem_tb 717 (by decide +kernel) rfl, rfl, by decide +kernel, tyX6_ok, nmX6, rfl, fun _ => rfl, fun _ => rfl⟩
theorem frRX6_26 : Fr RX6 26 6 9 true := ⟨RX6, TX6, 36, tyX6, .array .int, rfl, by decide, tbX6, mem_tb 722 (by decide +kernel) rfl, rfl, by decide +kernel, tyX6_ok, nmX6, rfl, fun _ => rfl, fun _ => rfl⟩
theorem frRX6_29 : Fr RX6 29 6 10 true := ⟨RX6, TX6, 36, tyX6, .array .int, rfl, by decide, tbX6, mem_tb 723 (by decide +kernel) rfl, rfl, by decide +kernel, tyX6_ok, nmX6, rfl, fun _ => rfl, fun _ => rfl⟩
theorem frRX6_32 : Fr RX6 32 6 12 true := ⟨RX6, TX6, 36, tyX6, .array .int, rfl, by decide, tbX6, mem_tb 725 (by decide +kernel) rfl, rfl, by decide +kernel, tyX6_ok, nmX6, rfl, fun _ => rfl, fun _ => rfl⟩
theorem frRX6_35 : Fr RX6 35 6 14 true := ⟨RX6, TX6, 36, tyX6, .array .int, rfl, by decide, tbX6, mem_tb 727 (by decide +kernel) rfl, rfl, by decide +kernel, tyX6_ok, nmX6, rfl, fun _ => rfl, fun _ => rfl⟩
theorem frRX6_38 : Fr RX6 38 6 16 true := ⟨RX6, TX6, 36, tyX6, .array .int, rfl, by decide, tbX6, mem_tb 729 (by decide +kernel) rfl, rfl, by decide +kernel, tyX6_ok, nmX6, rfl, fun _ => rfl, fun _ => rfl⟩
theorem frRX6_41 : Fr RX6 41 6 18 true := ⟨RX6, TX6, 36, tyX6, .array .int, rfl, by decide, tbX6, mem_tb 731 (by decide +kernel) rfl, rfl, by decide +kernel, tyX6_ok, nmX6, rfl, fun _ => rfl, fun _ => rfl⟩
theorem frRX6_44 : Fr RX6 44 6 20 true := ⟨RX6, TX6, 36, tyX6, .array .int, rfl, by decide, tbX6, mem_tb 733 (by decide +kernel) rfl, rfl, by decide +kernel, tyX6_ok, nmX6, rfl, fun _ => rfl, fun _ => rfl⟩
theorem frRX6_47 : Fr RX6 47 6 21 true := ⟨RX6, TX6, 36, tyX6, .array .int, rfl, by decide, tbX6, mem_tb 734 (by decide +kernel) rfl, rfl, by decide +kernel, tyX6_ok, nmX6, rfl, fun _ => rfl, fun _ => rfl⟩
theorem frRX6_50 : Fr RX6 50 6 22 true := ⟨RX6, TX6, 36, tyX6, .array .int, rfl, by decide, tbX6, mem_tb 735 (by decide +kernel) rfl, rfl, by decide +kernel, tyX6_ok, nmX6, rfl, fun _ => rfl, fun _ => rfl⟩
theorem cnRX6_53 : Cond.constant RX6 53 (-680876936 : Int32) ∈ tb_ := mem_tb 649 (by decide +kernel) rfl
theorem cnRX6_54 : Cond.constant RX6 54 (-389564586 : Int32) ∈ tb_ := mem_tb 650 (by decide +kernel) rfl
theorem cnRX6_55 : Cond.constant RX6 55 (606105819 : Int32) ∈ tb_ := mem_tb 651 (by decide +kernel) rfl
theorem cnRX6_56 : Cond.constant RX6 56 (-1044525330 : Int32) ∈ tb_ := mem_tb 652 (by decide +kernel) rfl
theorem cnRX6_57 : Cond.constant RX6 57 (-176418897 : Int32) ∈ tb_ := mem_tb 653 (by decide +kernel) rfl
theorem cnRX6_58 : Cond.constant RX6 58 (1200080426 : Int32) ∈ tb_ := mem_tb 654 (by decide +kernel) rfl
theorem cnRX6_59 : Cond.constant RX6 59 (-1473231341 : Int32) ∈ tb_ := mem_tb 655 (by decide +kernel) rfl
theorem cnRX6_60 : Cond.constant RX6 60 (-45705983 : Int32) ∈ tb_ := mem_tb 656 (by decide +kernel) rfl
theorem cnRX6_61 : Cond.constant RX6 61 (1770035416 : Int32) ∈ tb_ := mem_tb 657 (by decide +kernel) rfl
theorem cnRX6_62 : Cond.constant RX6 62 (-1958414417 : Int32) ∈ tb_ := mem_tb 658 (by decide +kernel) rfl
theorem cnRX6_63 : Cond.constant RX6 63 (-42063 : Int32) ∈ tb_ := mem_tb 659 (by decide +kernel) rfl
theorem cnRX6_64 : Cond.constant RX6 64 (-1990404162 : Int32) ∈ tb_ := mem_tb 660 (by decide +kernel) rfl
theorem cnRX6_65 : Cond.constant RX6 65 (1804603682 : Int32) ∈ tb_ := mem_tb 661 (by decide +kernel) rfl
theorem cnRX6_66 : Cond.constant RX6 66 (-40341101 : Int32) ∈ tb_ := mem_tb 662 (by decide +kernel) rfl
theorem cnRX6_67 : Cond.constant RX6 67 (-1502002290 : Int32) ∈ tb_ := mem_tb 663 (by decide +kernel) rfl
theorem cnRX6_68 : Cond.constant RX6 68 (1236535329 : Int32) ∈ tb_ := mem_tb 664 (by decide +kernel) rfl
theorem cnRX6_69 : Cond.constant RX6 69 (-165796510 : Int32) ∈ tb_ := mem_tb 665 (by decide +kernel) rfl
theorem cnRX6_70 : Cond.constant RX6 70 (-1069501632 : Int32) ∈ tb_ := mem_tb 666 (by decide +kernel) rfl
theorem cnRX6_71 : Cond.constant RX6 71 (643717713 : Int32) ∈ tb_ := mem_tb 667 (by decide +kernel) rfl
theorem cnRX6_72 : Cond.constant RX6 72 (-373897302 : Int32) ∈ tb_ := mem_tb 668 (by decide +kernel) rfl
theorem cnRX6_73 : Cond.constant RX6 73 (-701558691 : Int32) ∈ tb_ := mem_tb 669 (by decide +kernel) rfl
theorem cnRX6_74 : Cond.constant RX6 74 (38016083 : Int32) ∈ tb_ := mem_tb 670 (by decide +kernel) rfl
theorem cnRX6_75 : Cond.constant RX6 75 (-660478335 : Int32) ∈ tb_ := mem_tb 671 (by decide +kernel) rfl
theorem cnRX6_76 : Cond.constant RX6 76 (-405537848 : Int32) ∈ tb_ := mem_tb 672 (by decide +kernel) rfl
theorem cnRX6_77 : Cond.constant RX6 77 (568446438 : Int32) ∈ tb_ := mem_tb 673 (by decide +kernel) rfl
theorem cnRX6_78 : Cond.constant RX6 78 (-1019803690 : Int32) ∈ tb_ := mem_tb 674 (by decide +kernel) rfl
theorem cnRX6_79 : Cond.constant RX6 79 (-187363961 : Int32) ∈ tb_ := mem_tb 675 (by decide +kernel) rfl
theorem cnRX6_80 : Cond.constant RX6 80 (1163531501 : Int32) ∈ tb_ := mem_tb 676 (by decide +kernel) rfl
theorem cnRX6_81 : Cond.constant RX6 81 (-1444681467 : Int32) ∈ tb_ := mem_tb 677 (by decide +kernel) rfl
theorem cnRX6_82 : Cond.constant RX6 82 (-51403784 : Int32) ∈ tb_ := mem_tb 678 (by decide +kernel) rfl
theorem cnRX6_83 : Cond.constant RX6 83 (1735328473 : Int32) ∈ tb_ := mem_tb 679 (by decide +kernel) rfl
theorem cnRX6_84 : Cond.constant RX6 84 (-1926607734 : Int32) ∈ tb_ := mem_tb 680 (by decide +kernel) rfl
theorem cnRX6_85 : Cond.constant RX6 85 (-378558 : Int32) ∈ tb_ := mem_tb 681 (by decide +kernel) rfl
theorem cnRX6_86 : Cond.constant RX6 86 (-2022574463 : Int32) ∈ tb_ := mem_tb 682 (by decide +kernel) rfl
theorem cnRX6_87 : Cond.constant RX6 87 (1839030562 : Int32) ∈ tb_ := mem_tb 683 (by decide +kernel) rfl
theorem cnRX6_88 : Cond.constant RX6 88 (-35309556 : Int32) ∈ tb_ := mem_tb 684 (by decide +kernel) rfl
theorem cnRX6_89 : Cond.constant RX6 89 (-1530992060 : Int32) ∈ tb_ := mem_tb 685 (by decide +kernel) rfl
theorem cnRX6_90 : Cond.constant RX6 90 (1272893353 : Int32) ∈ tb_ := mem_tb 686 (by decide +kernel) rfl
theorem cnRX6_91 : Cond.constant RX6 91 (-155497632 : Int32) ∈ tb_ := mem_tb 687 (by decide +kernel) rfl
theorem cnRX6_92 : Cond.constant RX6 92 (-1094730640 : Int32) ∈ tb_ := mem_tb 688 (by decide +kernel) rfl
theorem cnRX6_93 : Cond.constant RX6 93 (681279174 : Int32) ∈ tb_ := mem_tb 689 (by decide +kernel) rfl
theorem cnRX6_94 : Cond.constant RX6 94 (-358537222 : Int32) ∈ tb_ := mem_tb 690 (by decide +kernel) rfl
theorem cnRX6_95 : Cond.constant RX6 95 (-722521979 : Int32) ∈ tb_ := mem_tb 691 (by decide +kernel) rfl
theorem cnRX6_96 : Cond.constant RX6 96 (76029189 : Int32) ∈ tb_ := mem_tb 692 (by decide +kernel) rfl
theorem cnRX6_97 : Cond.constant RX6 97 (-640364487 : Int32) ∈ tb_ := mem_tb 693 (by decide +kernel) rfl
theorem cnRX6_98 : Cond.constant RX6 98 (-421815835 : Int32) ∈ tb_ := mem_tb 694 (by decide +kernel) rfl
theorem cnRX6_99 : Cond.constant RX6 99 (530742520 : Int32) ∈ tb_ := mem_tb 695 (by decide +kernel) rfl
theorem cnRX6_100 : Cond.constant RX6 100 (-995338651 : Int32) ∈ tb_ := mem_tb 696 (by decide +kernel) rfl
theorem cnRX6_101 : Cond.constant RX6 101 (-198630844 : Int32) ∈ tb_ := mem_tb 697 (by decide +kernel) rfl
theorem cnRX6_102 : Cond.constant RX6 102 (1126891415 : Int32) ∈ tb_ := mem_tb 698 (by decide +kernel) rfl
theorem cnRX6_103 : Cond.constant RX6 103 (-1416354905 : Int32) ∈ tb_ := mem_tb 699 (by decide +kernel) rfl
theorem cnRX6_104 : Cond.constant RX6 104 (-57434055 : Int32) ∈ tb_ := mem_tb 700 (by decide +kernel) rfl
theorem cnRX6_105 : Cond.constant RX6 105 (1700485571 : Int32) ∈ tb_ := mem_tb 701 (by decide +kernel) rfl
theorem cnRX6_106 : Cond.constant RX6 106 (-1894986606 : Int32) ∈ tb_ := mem_tb 702 (by decide +kernel) rfl
theorem cnRX6_107 : Cond.constant RX6 107 (-1051523 : Int32) ∈ tb_ := mem_tb 703 (by decide +kernel) rfl
theorem cnRX6_108 : Cond.constant RX6 108 (-2054922799 : Int32) ∈ tb_ := mem_tb 704 (by decide +kernel) rfl
theorem cnRX6_109 : Cond.constant RX6 109 (1873313359 : Int32) ∈ tb_ := mem_tb 705 (by decide +kernel) rfl
theorem cnRX6_110 : Cond.constant RX6 110 (-30611744 : Int32) ∈ tb_ := mem_tb 706 (by decide +kernel) rfl
theorem cnRX6_111 : Cond.constant RX6 111 (-1560198380 : Int32) ∈ tb_ := mem_tb 707 (by decide +kernel) rfl
theorem cnRX6_112 : Cond.constant RX6 112 (1309151649 : Int32) ∈ tb_ := mem_tb 708 (by decide +kernel) rfl
theorem cnRX6_113 : Cond.constant RX6 113 (-145523070 : Int32) ∈ tb_ := mem_tb 709 (by decide +kernel) rfl
theorem cnRX6_114 : Cond.constant RX6 114 (-1120210379 : Int32) ∈ tb_ := mem_tb 710 (by decide +kernel) rfl
theorem cnRX6_115 : Cond.constant RX6 115 (718787259 : Int32) ∈ tb_ := mem_tb 711 (by decide +kernel) rfl
theorem cnRX6_116 : Cond.constant RX6 116 (-343485551 : Int32) ∈ tb_ := mem_tb 712 (by decide +kernel) rfl
theorem frRX6_117 : Fr RX6 117 6 23 true := ⟨RX6, TX6, 36, tyX6, .array .int, rfl, by decide, tbX6, mem_tb 736 (by decide +kernel) rfl, rfl, by decide +kernel, tyX6_ok, nmX6, rfl, fun _ => rfl, fun _ => rfl⟩
theorem frRX6_120 : Fr RX6 120 6 24 true := ⟨RX6, TX6, 36, tyX6, .array .int, rfl, by decide, tbX6, mem_tb 737 (by decide +kernel) rfl, rfl, by decide +kernel, tyX6_ok, nmX6, rfl, fun _ => rfl, fun _ => rfl⟩
theorem frRX6_123 : Fr RX6 123 6 25 true := ⟨RX6, TX6, 36, tyX6, .array .int, rfl, by decide, tbX6, mem_tb 738 (by decide +kernel) rfl, rfl, by decide +kernel, tyX6_ok, nmX6, rfl, fun _ => rfl, fun _ => rfl⟩
theorem frRX6_126 : Fr RX6 126 6 27 true := ⟨RX6, TX6, 36, tyX6, .array .int, rfl, by decide, tbX6, mem_tb 740 (by decide +kernel) rfl, rfl, by decide +kernel, tyX6_ok, nmX6, rfl, fun _ => rfl, fun _ => rfl⟩
theorem frRX6_129 : Fr RX6 129 6 28 true := ⟨RX6, TX6, 36, tyX6, .array .int, rfl, by decide, tbX6, mem_tb 741 (by decide +kernel) rfl, rfl, by decide +kernel, tyX6_ok, nmX6, rfl, fun _ => rfl, fun _ => rfl⟩
theorem frRX6_132 : Fr RX6 132 6 29 true := ⟨RX6, TX6, 36, tyX6, .array .int, rfl, by decide, tbX6, mem_tb 742 (by decide +kernel) rfl, rfl, by decide +kernel, tyX6_ok, nmX6, rfl, fun _ => rfl, fun _ => rfl⟩
theorem frRX6_135 : Fr RX6 135 6 30 true := ⟨RX6, TX6, 36, tyX6, .array .int, rfl, by decide, tbX6, mem_tb 743 (by decide +kernel) rfl, rfl, by decide +kernel, tyX6_ok, nmX6, rfl, fun _ => rfl, fun _ => rfl⟩
theorem frRX6_138 : Fr RX6 138 6 31 true := ⟨RX6, TX6, 36, tyX6, .array .int, rfl, by decide, tbX6, mem_tb 744 (by decide +kernel) rfl, rfl, by decide +kernel, tyX6_ok, nmX6, rfl, fun _ => rfl, fun _ => rfl⟩
theorem frRX6_141 : Fr RX6 141 6 32 true := ⟨RX6, TX6, 36, tyX6, .array .int, rfl, by decide, tbX6, mem_tb 745 (by decide +kernel) rfl, rfl, by decide +kernel, tyX6_ok, nmX6, rfl, fun _ => rfl, fun _ => rfl⟩
theorem frRX6_144 : Fr RX6 144 6 33 true := ⟨RX6, TX6, 36, tyX6, .array .int, rfl, by decide, tbX6, mem_tb 746 (by decide +kernel) rfl, rfl, by decide +kernel, tyX6_ok, nmX6, rfl, fun _ => rfl, fun _ => rfl⟩
theorem frRX6_147 : Fr RX6 147 6 34 true := ⟨RX6, TX6, 36, tyX6, .array .int, rfl, by decide, tbX6, mem_tb 747 (by decide +kernel) rfl, rfl, by decide +kernel, tyX6_ok, nmX6, rfl, fun _ => rfl, fun _ => rfl⟩
theorem frRX6_150 : Fr RX6 150 6 35 true := ⟨RX6, TX6, 36, tyX6, .array .int, rfl, by decide, tbX6, mem_tb 748 (by decide +kernel) rfl, rfl, by decide +kernel, tyX6_ok, nmX6, rfl, fun _ => rfl, fun _ => rfl⟩
abbrev mRow (n : Nat) : Mi := (yX3_init, cX3_init, 2, none, 1, { frames := 1, cells := 1, slots := n, locals := 12 })
theorem okRow (n : Nat) : MiOkN (mRow n) := ⟨(show plainName yX3_init.cls = true from by decide +kernel), (show Cond.code yX3_init cX3_init 2 none ∈ tb_ from mem_tb 79 (by decide +kernel) rfl), (show Cond.initialized yX3_init.cls ∈ tb_ from mem_tb 53 (by decide +kernel) rfl), (show yX3_init.cls ≠ "java/lang/invoke/MethodHandle" ∧ yX3_init.cls ≠ "java/lang/invoke/VarHandle" ∧ (parseMethodDescriptor yX3_init.desc).map (fun d => d.parameters.length) = some 1 from by decide +kernel), rfl, (show Cond.instanceMethod yX3_init ∈ tb_ from mem_tb 78 (by decide +kernel) rfl), rfl⟩
theorem cRow (n : Nat) (hn : n ≤ 20000) {w : Wo} {a N : Nat} (ha : a < N) (hN : N < 60) (wa : w a = ob 3 [.null, .int 0]) : Cns (mRow n) [.ref a, .int (nI n)] w N (wset (wset w N (ia n (fun _ => 0))) a (ob 3 [.ref N, .int 0])) (N + 1) := by
  refine Cns_intro (okRow n) (Nat.le_of_lt hN) rfl (Nat.le_of_ble_eq_true rfl) (L := [some (.ref a), some (.int (nI n))]) rfl (fun g ct C G IN T_ => ?_)
  refine b_aload_n C dX3_init_0 rfl ?_
  refine b_objinit C dX3_init_1 miRX3_3 oi_inst oi_code (Nat.le_of_ble_eq_true rfl) (Nat.le_of_ble_eq_true rfl) ?_
  refine b_aload_n C dX3_init_4 rfl ?_
  refine b_iload_n C dX3_init_5 rfl ?_
  refine b_if_ge C 13 dX3_init_6 (by decide) (fun _ => ?_) (fun h => absurd (nI_pos' (by omega)) h)
  refine b_iload_n C dX3_init_13 rfl ?_
  refine b_newi C G dX3_init_14 ac_int (M := n) rfl (by omega) rfl hN (Nat.le_of_ble_eq_true rfl) (Nat.le_of_eq (Nat.zero_add n)) (N1 := N + 1) (k1 := 1) (n1 := n) rfl rfl (Nat.zero_add n) ?_
  refine b_putR C IN dX3_init_16 frRX3_9 (Nat.lt_succ_of_lt ha) (ws_ne (Nat.ne_of_lt ha) wa) (Nat.le_of_ble_eq_true rfl) (fs' := [.ref N, .int 0]) rfl ?_
  exact b_return C T_ rfl rfl rfl rfl rfl dX3_init_19
abbrev mX2_init : Mi := (yX2_init, cX2_init, 1, none, 0, { frames := 1, cells := 1, slots := 16, locals := 12 })
theorem okX2_init : MiOkN mX2_init := ⟨(show plainName yX2_init.cls = true from by decide +kernel), (show Cond.code yX2_init cX2_init 1 none ∈ tb_ from mem_tb 111 (by decide +kernel) rfl), (show Cond.initialized yX2_init.cls ∈ tb_ from mem_tb 55 (by decide +kernel) rfl), (show yX2_init.cls ≠ "java/lang/invoke/MethodHandle" ∧ yX2_init.cls ≠ "java/lang/invoke/VarHandle" ∧ (parseMethodDescriptor yX2_init.desc).map (fun d => d.parameters.length) = some 0 from by decide +kernel), rfl, (show Cond.instanceMethod yX2_init ∈ tb_ from mem_tb 110 (by decide +kernel) rfl), rfl⟩
set_option maxHeartbeats 4000000 in
set_option maxRecDepth 100000 in
theorem cnX2_init {w : Wo} (w_18 : w 18 = ob 2 [.null, .int 0, .int 0, .int 0, .int 0]) : Cns mX2_init [.ref 18] w 19 (wset (wset w 19 (ia 16 (fun _ => 0))) 18 (ob 2 [.ref 19, .int 0, .int 0, .int 0, .int 0])) 20 := by
  refine Cns_intro okX2_init (Nat.le_of_ble_eq_true rfl) rfl (Nat.le_of_ble_eq_true rfl) (L := [some (.ref 18)]) rfl (fun g ct C G IN T_ => ?_)
  refine b_aload_n C dX2_init_0 rfl ?_
  refine b_objinit C dX2_init_1 miRX2_1 oi_inst oi_code (Nat.le_of_ble_eq_true rfl) (Nat.le_of_ble_eq_true rfl) ?_
  refine b_aload_n C dX2_init_4 rfl ?_
  refine b_bipush C dX2_init_5 (v := 16) (by decide) ?_
  refine b_newi C G dX2_init_7 ac_int (M := 16) rfl (Nat.le_of_ble_eq_true rfl) rfl (Nat.le_of_ble_eq_true rfl) (Nat.le_of_ble_eq_true rfl) (Nat.le_of_ble_eq_true rfl) (N1 := 20) (k1 := 1) (n1 := 16) rfl rfl rfl ?_
  refine b_putR C IN dX2_init_9 frRX2_7 (Nat.le_of_ble_eq_true rfl) (ws_ne (Nat.ne_of_beq_eq_false rfl) w_18) (Nat.le_of_ble_eq_true rfl) (fs' := [.ref 19, .int 0, .int 0, .int 0, .int 0]) rfl ?_
  exact b_return C T_ rfl rfl rfl rfl rfl dX2_init_12
abbrev mX4_init : Mi := (yX4_init, cX4_init, 1, none, 0, { frames := 1, cells := 1, slots := 256, locals := 12 })
theorem okX4_init : MiOkN mX4_init := ⟨(show plainName yX4_init.cls = true from by decide +kernel), (show Cond.code yX4_init cX4_init 1 none ∈ tb_ from mem_tb 133 (by decide +kernel) rfl), (show Cond.initialized yX4_init.cls ∈ tb_ from mem_tb 56 (by decide +kernel) rfl), (show yX4_init.cls ≠ "java/lang/invoke/MethodHandle" ∧ yX4_init.cls ≠ "java/lang/invoke/VarHandle" ∧ (parseMethodDescriptor yX4_init.desc).map (fun d => d.parameters.length) = some 0 from by decide +kernel), rfl, (show Cond.instanceMethod yX4_init ∈ tb_ from mem_tb 132 (by decide +kernel) rfl), rfl⟩
set_option maxHeartbeats 4000000 in
set_option maxRecDepth 100000 in
theorem cnX4_init {w : Wo} (w_20 : w 20 = ob 4 [.null]) : Cns mX4_init [.ref 20] w 21 (wset (wset w 21 (ia 256 (fun _ => 0))) 20 (ob 4 [.ref 21])) 22 := by
  refine Cns_intro okX4_init (Nat.le_of_ble_eq_true rfl) rfl (Nat.le_of_ble_eq_true rfl) (L := [some (.ref 20)]) rfl (fun g ct C G IN T_ => ?_)
  refine b_aload_n C dX4_init_0 rfl ?_
  refine b_objinit C dX4_init_1 miRX4_1 oi_inst oi_code (Nat.le_of_ble_eq_true rfl) (Nat.le_of_ble_eq_true rfl) ?_
  refine b_aload_n C dX4_init_4 rfl ?_
  refine b_sipush C dX4_init_5 (v := 256) (by decide) ?_
  refine b_newi C G dX4_init_8 ac_int (M := 256) rfl (Nat.le_of_ble_eq_true rfl) rfl (Nat.le_of_ble_eq_true rfl) (Nat.le_of_ble_eq_true rfl) (Nat.le_of_ble_eq_true rfl) (N1 := 22) (k1 := 1) (n1 := 256) rfl rfl rfl ?_
  refine b_putR C IN dX4_init_10 frRX4_7 (Nat.le_of_ble_eq_true rfl) (ws_ne (Nat.ne_of_beq_eq_false rfl) w_20) (Nat.le_of_ble_eq_true rfl) (fs' := [.ref 21]) rfl ?_
  exact b_return C T_ rfl rfl rfl rfl rfl dX4_init_13
def sbI : Nat → Nat → Nat
  | 0 => fun _ => 0
  | i + 1 => upn (sbI i) (sw i) i
theorem sbI_ok : ∀ i, i ≤ 256 → ∀ m, m < i → sbI i (sw m) = m
  | 0, _ => fun m h => absurd h (Nat.not_lt_zero m)
  | i + 1, hi => bk_step (sbI_ok i (Nat.le_of_succ_le hi)) hi
theorem sbI_all : ∀ x, x < 256 → sbI 256 x = bk x := bk_all (sbI_ok 256 (Nat.le_refl _))
abbrev mX0_init : Mi := (yX0_init, cX0_init, 2, none, 0, { frames := 1, cells := 4, slots := 464, locals := 12 })
theorem okX0_init : MiOkN mX0_init := ⟨(show plainName yX0_init.cls = true from by decide +kernel), (show Cond.code yX0_init cX0_init 2 none ∈ tb_ from mem_tb 143 (by decide +kernel) rfl), (show Cond.initialized yX0_init.cls ∈ tb_ from mem_tb 57 (by decide +kernel) rfl), (show yX0_init.cls ≠ "java/lang/invoke/MethodHandle" ∧ yX0_init.cls ≠ "java/lang/invoke/VarHandle" ∧ (parseMethodDescriptor yX0_init.desc).map (fun d => d.parameters.length) = some 0 from by decide +kernel), rfl, (show Cond.instanceMethod yX0_init ∈ tb_ from mem_tb 142 (by decide +kernel) rfl), rfl⟩
set_option maxHeartbeats 4000000 in
set_option maxRecDepth 100000 in
theorem cnX0_init {w : Wo} (w_22 : w 22 = ob 0 [.null, .null, .null, .null]) : Cns mX0_init [.ref 22] w 23 (wset (wset (wset (wset (wset w 23 (ia 256 (nf (sbI 256)))) 22 (ob 0 [.ref 23, .ref 24, .ref 25, .ref 26])) 24 (ia 176 (fun _ => 0))) 25 (ia 16 (fun _ => 0))) 26 (ia 16 (fun _ => 0))) 27 := by
  refine Cns_intro okX0_init (Nat.le_of_ble_eq_true rfl) rfl (Nat.le_of_ble_eq_true rfl) (L := [some (.ref 22), none]) rfl (fun g ct C G IN T_ => ?_)
  refine b_aload_n C dX0_init_0 rfl ?_
  refine b_objinit C dX0_init_1 miRX0_3 oi_inst oi_code (Nat.le_of_ble_eq_true rfl) (Nat.le_of_ble_eq_true rfl) ?_
  refine b_aload_n C dX0_init_4 rfl ?_
  refine b_sipush C dX0_init_5 (v := 256) (by decide) ?_
  refine b_newi C G dX0_init_8 ac_int (M := 256) rfl (Nat.le_of_ble_eq_true rfl) rfl (Nat.le_of_ble_eq_true rfl) (Nat.le_of_ble_eq_true rfl) (Nat.le_of_ble_eq_true rfl) (N1 := 24) (k1 := 1) (n1 := 256) rfl rfl rfl ?_
  refine b_putR C IN dX0_init_10 frRX0_9 (Nat.le_of_ble_eq_true rfl) (ws_ne (Nat.ne_of_beq_eq_false rfl) w_22) (Nat.le_of_ble_eq_true rfl) (fs' := [.ref 23, .null, .null, .null]) rfl ?_
  refine b_aload_n C dX0_init_13 rfl ?_
  refine b_sipush C dX0_init_14 (v := 176) (by decide) ?_
  refine b_newi C G dX0_init_17 ac_int (M := 176) rfl (Nat.le_of_ble_eq_true rfl) rfl (Nat.le_of_ble_eq_true rfl) (Nat.le_of_ble_eq_true rfl) (Nat.le_of_ble_eq_true rfl) (N1 := 25) (k1 := 2) (n1 := 432) rfl rfl rfl ?_
  refine b_putR C IN dX0_init_19 frRX0_15 (Nat.le_of_ble_eq_true rfl) (ws_ne (Nat.ne_of_beq_eq_false rfl) ws_eq) (Nat.le_of_ble_eq_true rfl) (fs' := [.ref 23, .ref 24, .null, .null]) rfl ?_
  refine b_eq rfl rfl ((ws_comm (Nat.ne_of_beq_eq_false rfl)).trans (congrArg (fun z => wset z 24 (ia 176 (fun _ => 0))) ws_same)) ?_
  refine b_aload_n C dX0_init_22 rfl ?_
  refine b_bipush C dX0_init_23 (v := 16) (by decide) ?_
  refine b_newi C G dX0_init_25 ac_int (M := 16) rfl (Nat.le_of_ble_eq_true rfl) rfl (Nat.le_of_ble_eq_true rfl) (Nat.le_of_ble_eq_true rfl) (Nat.le_of_ble_eq_true rfl) (N1 := 26) (k1 := 3) (n1 := 448) rfl rfl rfl ?_
  refine b_putR C IN dX0_init_27 frRX0_18 (Nat.le_of_ble_eq_true rfl) (ws_ne (Nat.ne_of_beq_eq_false rfl) (ws_ne (Nat.ne_of_beq_eq_false rfl) ws_eq)) (Nat.le_of_ble_eq_true rfl) (fs' := [.ref 23, .ref 24, .ref 25, .null]) rfl ?_
  refine b_eq rfl rfl ((ws_comm (Nat.ne_of_beq_eq_false rfl)).trans (congrArg (fun z => wset z 25 (ia 16 (fun _ => 0))) ((ws_comm (Nat.ne_of_beq_eq_false rfl)).trans (congrArg (fun z => wset z 24 (ia 176 (fun _ => 0))) ws_same)))) ?_
  refine b_aload_n C dX0_init_30 rfl ?_
  refine b_bipush C dX0_init_31 (v := 16) (by decide) ?_
  refine b_newi C G dX0_init_33 ac_int (M := 16) rfl (Nat.le_of_ble_eq_true rfl) rfl (Nat.le_of_ble_eq_true rfl) (Nat.le_of_ble_eq_true rfl) (Nat.le_of_ble_eq_true rfl) (N1 := 27) (k1 := 4) (n1 := 464) rfl rfl rfl ?_
  refine b_putR C IN dX0_init_35 frRX0_21 (Nat.le_of_ble_eq_true rfl) (ws_ne (Nat.ne_of_beq_eq_false rfl) (ws_ne (Nat.ne_of_beq_eq_false rfl) (ws_ne (Nat.ne_of_beq_eq_false rfl) ws_eq))) (Nat.le_of_ble_eq_true rfl) (fs' := [.ref 23, .ref 24, .ref 25, .ref 26]) rfl ?_
  refine b_eq rfl rfl ((ws_comm (Nat.ne_of_beq_eq_false rfl)).trans (congrArg (fun z => wset z 26 (ia 16 (fun _ => 0))) ((ws_comm (Nat.ne_of_beq_eq_false rfl)).trans (congrArg (fun z => wset z 25 (ia 16 (fun _ => 0))) ((ws_comm (Nat.ne_of_beq_eq_false rfl)).trans (congrArg (fun z => wset z 24 (ia 176 (fun _ => 0))) ws_same)))))) ?_
  refine b_iconst C dX0_init_38 (v := 0) (by decide) ?_
  refine b_istore_n C dX0_init_39 (L' := [some (.ref 22), some (.int 0)]) (by decide) rfl ?_
  have loop_40 : ∀ (d9 : Nat) (i : Nat), 256 - i < d9 → i ≤ 256 → Bz g mX0_init ct 27 4 464 40 [some (.ref 22), some (.int (nI i))] [] (wset (wset (wset (wset (wset w 23 (ia 256 (nf (sbI i)))) 22 (ob 0 [.ref 23, .ref 24, .ref 25, .ref 26])) 24 (ia 176 (fun _ => 0))) 25 (ia 16 (fun _ => 0))) 26 (ia 16 (fun _ => 0))) := by
    intro d9
    induction d9 with
    | zero => intro i hd9; exact absurd hd9 (Nat.not_lt_zero _)
    | succ d9 ih_40 =>
      intro i hd9 hi
      refine b_iload_n C dX0_init_40 rfl ?_
      refine b_sipush C dX0_init_41 (v := 256) (by decide) ?_
      refine b_icmp_ge C 64 dX0_init_44 (by decide) (fun c_44 => ?_) (fun c_44 => ?_)
      · skip
        have c_44 : 256 ≤ i := (nI_leI (a := 256) (b := i) (by omega) (by omega)).mp c_44
        have hi9 : i = 256 := by omega
        subst hi9
        exact b_return C T_ rfl rfl rfl rfl rfl dX0_init_64
      · skip
        have c_44 : ¬ (256 ≤ i) := fun h9 => c_44 ((nI_leI (a := 256) (b := i) (by omega) (by omega)).mpr h9)
        refine b_aload_n C dX0_init_47 rfl ?_
        refine b_get C dX0_init_48 fgRX0_9 (Nat.le_of_ble_eq_true rfl) (ws_ne (Nat.ne_of_beq_eq_false rfl) (ws_ne (Nat.ne_of_beq_eq_false rfl) (ws_ne (Nat.ne_of_beq_eq_false rfl) ws_eq))) rfl ?_
        refine b_gets C (j := 0) dX0_init_51 rfl slRX0_24 ?_
        refine b_iload_n C dX0_init_54 rfl ?_
        refine b_tald C dX0_init_55 (j := 0) (t := i) rfl rfl rfl (by show _ < 256; omega) (by decide) ?_
        refine b_top (y := nI (sw i)) (sw_tab i) ?_
        refine b_iload_n C dX0_init_56 rfl ?_
        refine b_iastF C dX0_init_57 (Nat.le_of_ble_eq_true rfl) (ws_ne (Nat.ne_of_beq_eq_false rfl) (ws_ne (Nat.ne_of_beq_eq_false rfl) (ws_ne (Nat.ne_of_beq_eq_false rfl) (ws_ne (Nat.ne_of_beq_eq_false rfl) ws_eq)))) (j := sw i) (x := i) rfl rfl (sw_lt i) (by decide) ?_
        refine b_eq rfl rfl ((ws_comm (Nat.ne_of_beq_eq_false rfl)).trans (congrArg (fun z => wset z 26 (ia 16 (fun _ => 0))) ((ws_comm (Nat.ne_of_beq_eq_false rfl)).trans (congrArg (fun z => wset z 25 (ia 16 (fun _ => 0))) ((ws_comm (Nat.ne_of_beq_eq_false rfl)).trans (congrArg (fun z => wset z 24 (ia 176 (fun _ => 0))) ((ws_comm (Nat.ne_of_beq_eq_false rfl)).trans (congrArg (fun z => wset z 22 (ob 0 [.ref 23, .ref 24, .ref 25, .ref 26])) ws_same)))))))) ?_
        refine b_iinc C dX0_init_58 (v := nI (i + 1)) (L' := [some (.ref 22), some (.int (nI (i + 1)))]) rfl (nI_add i 1) (by decide) rfl ?_
        refine b_goto C 40 dX0_init_61 (by decide) ?_
        exact ih_40 (i + 1) (by omega) (by omega)
  exact loop_40 _ 0 (Nat.lt_succ_self _) (Nat.zero_le _)
abbrev mX1_init : Mi := (yX1_init, cX1_init, 1, none, 0, { frames := 2, cells := 29, slots := 1254, locals := 33 })
theorem okX1_init : MiOkN mX1_init := ⟨(show plainName yX1_init.cls = true from by decide +kernel), (show Cond.code yX1_init cX1_init 1 none ∈ tb_ from mem_tb 103 (by decide +kernel) rfl), (show Cond.initialized yX1_init.cls ∈ tb_ from mem_tb 54 (by decide +kernel) rfl), (show yX1_init.cls ≠ "java/lang/invoke/MethodHandle" ∧ yX1_init.cls ≠ "java/lang/invoke/VarHandle" ∧ (parseMethodDescriptor yX1_init.desc).map (fun d => d.parameters.length) = some 0 from by decide +kernel), rfl, (show Cond.instanceMethod yX1_init ∈ tb_ from mem_tb 102 (by decide +kernel) rfl), rfl⟩
set_option maxHeartbeats 4000000 in
set_option maxRecDepth 100000 in
theorem cnX1_init {w : Wo} (w_5 : w 5 = ob 1 [.int 0, .int 0, .int 0, .int 0, .null, .null, .null, .null, .null, .null, .null, .null, .null, .null, .null, .null, .null]) : Cns mX1_init [.ref 5] w 6 (wset (wset (wset (wset (wset (wset (wset (wset (wset (wset (wset (wset (wset (wset (wset (wset (wset (wset (wset (wset (wset (wset (wset (wset (wset (wset (wset (wset (wset (wset w 5 (ob 1 [.int 3, .int 16, .int (-4), .int 0, .ref 6, .ref 8, .ref 10, .ref 12, .ref 14, .ref 16, .ref 18, .ref 20, .ref 22, .ref 27, .ref 29, .ref 31, .ref 33])) 6 (ob 3 [.ref 7, .int 32])) 7 (ia 32 (fun _ => 0))) 8 (ob 3 [.ref 9, .int 32])) 9 (ia 32 (fun _ => 0))) 10 (ob 3 [.ref 11, .int 0])) 11 (ia 64 (fun _ => 0))) 12 (ob 3 [.ref 13, .int 0])) 13 (ia 64 (fun _ => 0))) 14 (ob 3 [.ref 15, .int 0])) 15 (ia 64 (fun _ => 0))) 16 (ob 3 [.ref 17, .int 0])) 17 (ia 16 (fun _ => 0))) 18 (ob 2 [.ref 19, .int 0, .int 0, .int 0, .int 0])) 19 (ia 16 (fun _ => 0))) 20 (ob 4 [.ref 21])) 21 (ia 256 (fun _ => 0))) 22 (ob 0 [.ref 23, .ref 24, .ref 25, .ref 26])) 23 (ia 256 (nf (sbI 256)))) 24 (ia 176 (fun _ => 0))) 25 (ia 16 (fun _ => 0))) 26 (ia 16 (fun _ => 0))) 27 (ob 3 [.ref 28, .int 0])) 28 (ia 136 (fun _ => 0))) 29 (ob 3 [.ref 30, .int 0])) 30 (ia 16 (fun _ => 0))) 31 (ob 3 [.ref 32, .int 0])) 32 (ia 32 (fun _ => 0))) 33 (ob 3 [.ref 34, .int 0])) 34 (ia 32 (fun _ => 0))) 35 := by
  refine Cns_intro okX1_init (Nat.le_of_ble_eq_true rfl) rfl (Nat.le_of_ble_eq_true rfl) (L := [some (.ref 5)]) rfl (fun g ct C G IN T_ => ?_)
  refine b_aload_n C dX1_init_0 rfl ?_
  refine b_objinit C dX1_init_1 miRX1_3 oi_inst oi_code (Nat.le_of_ble_eq_true rfl) (Nat.le_of_ble_eq_true rfl) ?_
  refine b_aload_n C dX1_init_4 rfl ?_
  refine b_iconst C dX1_init_5 (v := 3) (by decide) ?_
  refine b_put C dX1_init_6 fpRX1_9 (Nat.le_of_ble_eq_true rfl) w_5 rfl rfl (Nat.le_of_ble_eq_true rfl) (fs' := [.int 3, .int 0, .int 0, .int 0, .null, .null, .null, .null, .null, .null, .null, .null, .null, .null, .null, .null, .null]) rfl ?_
  refine b_aload_n C dX1_init_9 rfl ?_
  refine b_bipush C dX1_init_10 (v := 16) (by decide) ?_
  refine b_put C dX1_init_12 fpRX1_15 (Nat.le_of_ble_eq_true rfl) ws_eq rfl rfl (Nat.le_of_ble_eq_true rfl) (fs' := [.int 3, .int 16, .int 0, .int 0, .null, .null, .null, .null, .null, .null, .null, .null, .null, .null, .null, .null, .null]) rfl ?_
  refine b_eq rfl rfl ws_same ?_
  refine b_aload_n C dX1_init_15 rfl ?_
  refine b_bipush C dX1_init_16 (v := (-4)) (by decide) ?_
  refine b_put C dX1_init_18 fpRX1_18 (Nat.le_of_ble_eq_true rfl) ws_eq rfl rfl (Nat.le_of_ble_eq_true rfl) (fs' := [.int 3, .int 16, .int (-4), .int 0, .null, .null, .null, .null, .null, .null, .null, .null, .null, .null, .null, .null, .null]) rfl ?_
  refine b_eq rfl rfl ws_same ?_
  refine b_aload_n C dX1_init_21 rfl ?_
  refine b_iconst C dX1_init_22 (v := 0) (by decide) ?_
  refine b_put C dX1_init_23 fpRX1_21 (Nat.le_of_ble_eq_true rfl) ws_eq (by decide) (by decide) (Nat.le_of_ble_eq_true rfl) (fs' := [.int 3, .int 16, .int (-4), .int 0, .null, .null, .null, .null, .null, .null, .null, .null, .null, .null, .null, .null, .null]) rfl ?_
  refine b_eq rfl rfl ws_same ?_
  refine b_aload_n C dX1_init_26 rfl ?_
  refine b_new C G dX1_init_27 nwRX1_25 rfl (Nat.le_of_ble_eq_true rfl) (Nat.le_of_ble_eq_true rfl) (Nat.le_of_ble_eq_true rfl) (N1 := 7) (k1 := 1) (n1 := 2) rfl rfl rfl ?_
  refine b_dup C dX1_init_30 rfl ?_
  refine b_bipush C dX1_init_31 (v := 32) (by decide) ?_
  refine b_init C G (As := [.int 32]) (rest := [.ref 6, .ref 5]) dX1_init_33 (cRow 32 (Nat.le_of_ble_eq_true rfl) (a := 6) (N := 7) (Nat.le_of_ble_eq_true rfl) (Nat.le_of_ble_eq_true rfl) ws_eq) (okRow 32) (Or.inl miRX1_27) ⟨by decide, by decide⟩ rfl rfl (Nat.le_of_ble_eq_true rfl) (Nat.le_of_ble_eq_true rfl) rfl rfl (Nat.le_of_ble_eq_true rfl) (Nat.le_of_ble_eq_true rfl) (Nat.le_of_ble_eq_true rfl) (k1 := 2) (n1 := 34) rfl rfl ?_
  refine b_eq rfl rfl ((ws_comm (Nat.ne_of_beq_eq_false rfl)).trans (congrArg (fun z => wset z 7 (ia 32 (fun _ => 0))) ws_same)) ?_
  refine b_putR C IN dX1_init_36 frRX1_30 (Nat.le_of_ble_eq_true rfl) (ws_ne (Nat.ne_of_beq_eq_false rfl) (ws_ne (Nat.ne_of_beq_eq_false rfl) ws_eq)) (Nat.le_of_ble_eq_true rfl) (fs' := [.int 3, .int 16, .int (-4), .int 0, .ref 6, .null, .null, .null, .null, .null, .null, .null, .null, .null, .null, .null, .null]) rfl ?_
  refine b_eq rfl rfl ((ws_comm (Nat.ne_of_beq_eq_false rfl)).trans (congrArg (fun z => wset z 7 (ia 32 (fun _ => 0))) ((ws_comm (Nat.ne_of_beq_eq_false rfl)).trans (congrArg (fun z => wset z 6 (ob 3 [.ref 7, .int 0])) ws_same)))) ?_
  refine b_aload_n C dX1_init_39 rfl ?_
  refine b_new C G dX1_init_40 nwRX1_25 rfl (Nat.le_of_ble_eq_true rfl) (Nat.le_of_ble_eq_true rfl) (Nat.le_of_ble_eq_true rfl) (N1 := 9) (k1 := 3) (n1 := 36) rfl rfl rfl ?_
  refine b_dup C dX1_init_43 rfl ?_
  refine b_bipush C dX1_init_44 (v := 32) (by decide) ?_
  refine b_init C G (As := [.int 32]) (rest := [.ref 8, .ref 5]) dX1_init_46 (cRow 32 (Nat.le_of_ble_eq_true rfl) (a := 8) (N := 9) (Nat.le_of_ble_eq_true rfl) (Nat.le_of_ble_eq_true rfl) ws_eq) (okRow 32) (Or.inl miRX1_27) ⟨by decide, by decide⟩ rfl rfl (Nat.le_of_ble_eq_true rfl) (Nat.le_of_ble_eq_true rfl) rfl rfl (Nat.le_of_ble_eq_true rfl) (Nat.le_of_ble_eq_true rfl) (Nat.le_of_ble_eq_true rfl) (k1 := 4) (n1 := 68) rfl rfl ?_
  refine b_eq rfl rfl ((ws_comm (Nat.ne_of_beq_eq_false rfl)).trans (congrArg (fun z => wset z 9 (ia 32 (fun _ => 0))) ws_same)) ?_
  refine b_putR C IN dX1_init_49 frRX1_34 (Nat.le_of_ble_eq_true rfl) (ws_ne (Nat.ne_of_beq_eq_false rfl) (ws_ne (Nat.ne_of_beq_eq_false rfl) (ws_ne (Nat.ne_of_beq_eq_false rfl) (ws_ne (Nat.ne_of_beq_eq_false rfl) ws_eq)))) (Nat.le_of_ble_eq_true rfl) (fs' := [.int 3, .int 16, .int (-4), .int 0, .ref 6, .ref 8, .null, .null, .null, .null, .null, .null, .null, .null, .null, .null, .null]) rfl ?_
  refine b_eq rfl rfl ((ws_comm (Nat.ne_of_beq_eq_false rfl)).trans (congrArg (fun z => wset z 9 (ia 32 (fun _ => 0))) ((ws_comm (Nat.ne_of_beq_eq_false rfl)).trans (congrArg (fun z => wset z 8 (ob 3 [.ref 9, .int 0])) ((ws_comm (Nat.ne_of_beq_eq_false rfl)).trans (congrArg (fun z => wset z 7 (ia 32 (fun _ => 0))) ((ws_comm (Nat.ne_of_beq_eq_false rfl)).trans (congrArg (fun z => wset z 6 (ob 3 [.ref 7, .int 0])) ws_same)))))))) ?_
  refine b_aload_n C dX1_init_52 rfl ?_
  refine b_new C G dX1_init_53 nwRX1_25 rfl (Nat.le_of_ble_eq_true rfl) (Nat.le_of_ble_eq_true rfl) (Nat.le_of_ble_eq_true rfl) (N1 := 11) (k1 := 5) (n1 := 70) rfl rfl rfl ?_
  refine b_dup C dX1_init_56 rfl ?_
  refine b_bipush C dX1_init_57 (v := 64) (by decide) ?_
  refine b_init C G (As := [.int 64]) (rest := [.ref 10, .ref 5]) dX1_init_59 (cRow 64 (Nat.le_of_ble_eq_true rfl) (a := 10) (N := 11) (Nat.le_of_ble_eq_true rfl) (Nat.le_of_ble_eq_true rfl) ws_eq) (okRow 64) (Or.inl miRX1_27) ⟨by decide, by decide⟩ rfl rfl (Nat.le_of_ble_eq_true rfl) (Nat.le_of_ble_eq_true rfl) rfl rfl (Nat.le_of_ble_eq_true rfl) (Nat.le_of_ble_eq_true rfl) (Nat.le_of_ble_eq_true rfl) (k1 := 6) (n1 := 134) rfl rfl ?_
  refine b_eq rfl rfl ((ws_comm (Nat.ne_of_beq_eq_false rfl)).trans (congrArg (fun z => wset z 11 (ia 64 (fun _ => 0))) ws_same)) ?_
  refine b_putR C IN dX1_init_62 frRX1_37 (Nat.le_of_ble_eq_true rfl) (ws_ne (Nat.ne_of_beq_eq_false rfl) (ws_ne (Nat.ne_of_beq_eq_false rfl) (ws_ne (Nat.ne_of_beq_eq_false rfl) (ws_ne (Nat.ne_of_beq_eq_false rfl) (ws_ne (Nat.ne_of_beq_eq_false rfl) (ws_ne (Nat.ne_of_beq_eq_false rfl) ws_eq)))))) (Nat.le_of_ble_eq_true rfl) (fs' := [.int 3, .int 16, .int (-4), .int 0, .ref 6, .ref 8, .ref 10, .null, .null, .null, .null, .null, .null, .null, .null, .null, .null]) rfl ?_
  refine b_eq rfl rfl ((ws_comm (Nat.ne_of_beq_eq_false rfl)).trans (congrArg (fun z => wset z 11 (ia 64 (fun _ => 0))) ((ws_comm (Nat.ne_of_beq_eq_false rfl)).trans (congrArg (fun z => wset z 10 (ob 3 [.ref 11, .int 0])) ((ws_comm (Nat.ne_of_beq_eq_false rfl)).trans (congrArg (fun z => wset z 9 (ia 32 (fun _ => 0))) ((ws_comm (Nat.ne_of_beq_eq_false rfl)).trans (congrArg (fun z => wset z 8 (ob 3 [.ref 9, .int 0])) ((ws_comm (Nat.ne_of_beq_eq_false rfl)).trans (congrArg (fun z => wset z 7 (ia 32 (fun _ => 0))) ((ws_comm (Nat.ne_of_beq_eq_false rfl)).trans (congrArg (fun z => wset z 6 (ob 3 [.ref 7, .int 0])) ws_same)))))))))))) ?_
  refine b_aload_n C dX1_init_65 rfl ?_
  refine b_new C G dX1_init_66 nwRX1_25 rfl (Nat.le_of_ble_eq_true rfl) (Nat.le_of_ble_eq_true rfl) (Nat.le_of_ble_eq_true rfl) (N1 := 13) (k1 := 7) (n1 := 136) rfl rfl rfl ?_
  refine b_dup C dX1_init_69 rfl ?_
  refine b_bipush C dX1_init_70 (v := 64) (by decide) ?_
  refine b_init C G (As := [.int 64]) (rest := [.ref 12, .ref 5]) dX1_init_72 (cRow 64 (Nat.le_of_ble_eq_true rfl) (a := 12) (N := 13) (Nat.le_of_ble_eq_true rfl) (Nat.le_of_ble_eq_true rfl) ws_eq) (okRow 64) (Or.inl miRX1_27) ⟨by decide, by decide⟩ rfl rfl (Nat.le_of_ble_eq_true rfl) (Nat.le_of_ble_eq_true rfl) rfl rfl (Nat.le_of_ble_eq_true rfl) (Nat.le_of_ble_eq_true rfl) (Nat.le_of_ble_eq_true rfl) (k1 := 8) (n1 := 200) rfl rfl ?_
  refine b_eq rfl rfl ((ws_comm (Nat.ne_of_beq_eq_false rfl)).trans (congrArg (fun z => wset z 13 (ia 64 (fun _ => 0))) ws_same)) ?_
  refine b_putR C IN dX1_init_75 frRX1_40 (Nat.le_of_ble_eq_true rfl) (ws_ne (Nat.ne_of_beq_eq_false rfl) (ws_ne (Nat.ne_of_beq_eq_false rfl) (ws_ne (Nat.ne_of_beq_eq_false rfl) (ws_ne (Nat.ne_of_beq_eq_false rfl) (ws_ne (Nat.ne_of_beq_eq_false rfl) (ws_ne (Nat.ne_of_beq_eq_false rfl) (ws_ne (Nat.ne_of_beq_eq_false rfl) (ws_ne (Nat.ne_of_beq_eq_false rfl) ws_eq)))))))) (Nat.le_of_ble_eq_true rfl) (fs' := [.int 3, .int 16, .int (-4), .int 0, .ref 6, .ref 8, .ref 10, .ref 12, .null, .null, .null, .null, .null, .null, .null, .null, .null]) rfl ?_
  refine b_eq rfl rfl ((ws_comm (Nat.ne_of_beq_eq_false rfl)).trans (congrArg (fun z => wset z 13 (ia 64 (fun _ => 0))) ((ws_comm (Nat.ne_of_beq_eq_false rfl)).trans (congrArg (fun z => wset z 12 (ob 3 [.ref 13, .int 0])) ((ws_comm (Nat.ne_of_beq_eq_false rfl)).trans (congrArg (fun z => wset z 11 (ia 64 (fun _ => 0))) ((ws_comm (Nat.ne_of_beq_eq_false rfl)).trans (congrArg (fun z => wset z 10 (ob 3 [.ref 11, .int 0])) ((ws_comm (Nat.ne_of_beq_eq_false rfl)).trans (congrArg (fun z => wset z 9 (ia 32 (fun _ => 0))) ((ws_comm (Nat.ne_of_beq_eq_false rfl)).trans (congrArg (fun z => wset z 8 (ob 3 [.ref 9, .int 0])) ((ws_comm (Nat.ne_of_beq_eq_false rfl)).trans (congrArg (fun z => wset z 7 (ia 32 (fun _ => 0))) ((ws_comm (Nat.ne_of_beq_eq_false rfl)).trans (congrArg (fun z => wset z 6 (ob 3 [.ref 7, .int 0])) ws_same)))))))))))))))) ?_
  refine b_aload_n C dX1_init_78 rfl ?_
  refine b_new C G dX1_init_79 nwRX1_25 rfl (Nat.le_of_ble_eq_true rfl) (Nat.le_of_ble_eq_true rfl) (Nat.le_of_ble_eq_true rfl) (N1 := 15) (k1 := 9) (n1 := 202) rfl rfl rfl ?_
  refine b_dup C dX1_init_82 rfl ?_
  refine b_bipush C dX1_init_83 (v := 64) (by decide) ?_
  refine b_init C G (As := [.int 64]) (rest := [.ref 14, .ref 5]) dX1_init_85 (cRow 64 (Nat.le_of_ble_eq_true rfl) (a := 14) (N := 15) (Nat.le_of_ble_eq_true rfl) (Nat.le_of_ble_eq_true rfl) ws_eq) (okRow 64) (Or.inl miRX1_27) ⟨by decide, by decide⟩ rfl rfl (Nat.le_of_ble_eq_true rfl) (Nat.le_of_ble_eq_true rfl) rfl rfl (Nat.le_of_ble_eq_true rfl) (Nat.le_of_ble_eq_true rfl) (Nat.le_of_ble_eq_true rfl) (k1 := 10) (n1 := 266) rfl rfl ?_
  refine b_eq rfl rfl ((ws_comm (Nat.ne_of_beq_eq_false rfl)).trans (congrArg (fun z => wset z 15 (ia 64 (fun _ => 0))) ws_same)) ?_
  refine b_putR C IN dX1_init_88 frRX1_43 (Nat.le_of_ble_eq_true rfl) (ws_ne (Nat.ne_of_beq_eq_false rfl) (ws_ne (Nat.ne_of_beq_eq_false rfl) (ws_ne (Nat.ne_of_beq_eq_false rfl) (ws_ne (Nat.ne_of_beq_eq_false rfl) (ws_ne (Nat.ne_of_beq_eq_false rfl) (ws_ne (Nat.ne_of_beq_eq_false rfl) (ws_ne (Nat.ne_of_beq_eq_false rfl) (ws_ne (Nat.ne_of_beq_eq_false rfl) (ws_ne (Nat.ne_of_beq_eq_false rfl) (ws_ne (Nat.ne_of_beq_eq_false rfl) ws_eq)))))))))) (Nat.le_of_ble_eq_true rfl) (fs' := [.int 3, .int 16, .int (-4), .int 0, .ref 6, .ref 8, .ref 10, .ref 12, .ref 14, .null, .null, .null, .null, .null, .null, .null, .null]) rfl ?_
  refine b_eq rfl rfl ((ws_comm (Nat.ne_of_beq_eq_false rfl)).trans (congrArg (fun z => wset z 15 (ia 64 (fun _ => 0))) ((ws_comm (Nat.ne_of_beq_eq_false rfl)).trans (congrArg (fun z => wset z 14 (ob 3 [.ref 15, .int 0])) ((ws_comm (Nat.ne_of_beq_eq_false rfl)).trans (congrArg (fun z => wset z 13 (ia 64 (fun _ => 0))) ((ws_comm (Nat.ne_of_beq_eq_false rfl)).trans (congrArg (fun z => wset z 12 (ob 3 [.ref 13, .int 0])) ((ws_comm (Nat.ne_of_beq_eq_false rfl)).trans (congrArg (fun z => wset z 11 (ia 64 (fun _ => 0))) ((ws_comm (Nat.ne_of_beq_eq_false rfl)).trans (congrArg (fun z => wset z 10 (ob 3 [.ref 11, .int 0])) ((ws_comm (Nat.ne_of_beq_eq_false rfl)).trans (congrArg (fun z => wset z 9 (ia 32 (fun _ => 0))) ((ws_comm (Nat.ne_of_beq_eq_false rfl)).trans (congrArg (fun z => wset z 8 (ob 3 [.ref 9, .int 0])) ((ws_comm (Nat.ne_of_beq_eq_false rfl)).trans (congrArg (fun z => wset z 7 (ia 32 (fun _ => 0))) ((ws_comm (Nat.ne_of_beq_eq_false rfl)).trans (congrArg (fun z => wset z 6 (ob 3 [.ref 7, .int 0])) ws_same)))))))))))))))))))) ?_
  refine b_aload_n C dX1_init_91 rfl ?_
  refine b_new C G dX1_init_92 nwRX1_25 rfl (Nat.le_of_ble_eq_true rfl) (Nat.le_of_ble_eq_true rfl) (Nat.le_of_ble_eq_true rfl) (N1 := 17) (k1 := 11) (n1 := 268) rfl rfl rfl ?_
  refine b_dup C dX1_init_95 rfl ?_
  refine b_bipush C dX1_init_96 (v := 16) (by decide) ?_
  refine b_init C G (As := [.int 16]) (rest := [.ref 16, .ref 5]) dX1_init_98 (cRow 16 (Nat.le_of_ble_eq_true rfl) (a := 16) (N := 17) (Nat.le_of_ble_eq_true rfl) (Nat.le_of_ble_eq_true rfl) ws_eq) (okRow 16) (Or.inl miRX1_27) ⟨by decide, by decide⟩ rfl rfl (Nat.le_of_ble_eq_true rfl) (Nat.le_of_ble_eq_true rfl) rfl rfl (Nat.le_of_ble_eq_true rfl) (Nat.le_of_ble_eq_true rfl) (Nat.le_of_ble_eq_true rfl) (k1 := 12) (n1 := 284) rfl rfl ?_
  refine b_eq rfl rfl ((ws_comm (Nat.ne_of_beq_eq_false rfl)).trans (congrArg (fun z => wset z 17 (ia 16 (fun _ => 0))) ws_same)) ?_
  refine b_putR C IN dX1_init_101 frRX1_46 (Nat.le_of_ble_eq_true rfl) (ws_ne (Nat.ne_of_beq_eq_false rfl) (ws_ne (Nat.ne_of_beq_eq_false rfl) (ws_ne (Nat.ne_of_beq_eq_false rfl) (ws_ne (Nat.ne_of_beq_eq_false rfl) (ws_ne (Nat.ne_of_beq_eq_false rfl) (ws_ne (Nat.ne_of_beq_eq_false rfl) (ws_ne (Nat.ne_of_beq_eq_false rfl) (ws_ne (Nat.ne_of_beq_eq_false rfl) (ws_ne (Nat.ne_of_beq_eq_false rfl) (ws_ne (Nat.ne_of_beq_eq_false rfl) (ws_ne (Nat.ne_of_beq_eq_false rfl) (ws_ne (Nat.ne_of_beq_eq_false rfl) ws_eq)))))))))))) (Nat.le_of_ble_eq_true rfl) (fs' := [.int 3, .int 16, .int (-4), .int 0, .ref 6, .ref 8, .ref 10, .ref 12, .ref 14, .ref 16, .null, .null, .null, .null, .null, .null, .null]) rfl ?_
  refine b_eq rfl rfl ((ws_comm (Nat.ne_of_beq_eq_false rfl)).trans (congrArg (fun z => wset z 17 (ia 16 (fun _ => 0))) ((ws_comm (Nat.ne_of_beq_eq_false rfl)).trans (congrArg (fun z => wset z 16 (ob 3 [.ref 17, .int 0])) ((ws_comm (Nat.ne_of_beq_eq_false rfl)).trans (congrArg (fun z => wset z 15 (ia 64 (fun _ => 0))) ((ws_comm (Nat.ne_of_beq_eq_false rfl)).trans (congrArg (fun z => wset z 14 (ob 3 [.ref 15, .int 0])) ((ws_comm (Nat.ne_of_beq_eq_false rfl)).trans (congrArg (fun z => wset z 13 (ia 64 (fun _ => 0))) ((ws_comm (Nat.ne_of_beq_eq_false rfl)).trans (congrArg (fun z => wset z 12 (ob 3 [.ref 13, .int 0])) ((ws_comm (Nat.ne_of_beq_eq_false rfl)).trans (congrArg (fun z => wset z 11 (ia 64 (fun _ => 0))) ((ws_comm (Nat.ne_of_beq_eq_false rfl)).trans (congrArg (fun z => wset z 10 (ob 3 [.ref 11, .int 0])) ((ws_comm (Nat.ne_of_beq_eq_false rfl)).trans (congrArg (fun z => wset z 9 (ia 32 (fun _ => 0))) ((ws_comm (Nat.ne_of_beq_eq_false rfl)).trans (congrArg (fun z => wset z 8 (ob 3 [.ref 9, .int 0])) ((ws_comm (Nat.ne_of_beq_eq_false rfl)).trans (congrArg (fun z => wset z 7 (ia 32 (fun _ => 0))) ((ws_comm (Nat.ne_of_beq_eq_false rfl)).trans (congrArg (fun z => wset z 6 (ob 3 [.ref 7, .int 0])) ws_same)))))))))))))))))))))))) ?_
  refine b_aload_n C dX1_init_104 rfl ?_
  refine b_new C G dX1_init_105 nwRX1_49 rfl (Nat.le_of_ble_eq_true rfl) (Nat.le_of_ble_eq_true rfl) (Nat.le_of_ble_eq_true rfl) (N1 := 19) (k1 := 13) (n1 := 289) rfl rfl rfl ?_
  refine b_dup C dX1_init_108 rfl ?_
  refine b_init C G (As := []) (rest := [.ref 18, .ref 5]) dX1_init_109 (cnX2_init ws_eq) okX2_init (Or.inr (List.mem_of_getElem? (i := 0) rfl)) ⟨by decide, by decide⟩ rfl rfl (Nat.le_of_ble_eq_true rfl) (Nat.le_of_ble_eq_true rfl) rfl rfl (Nat.le_of_ble_eq_true rfl) (Nat.le_of_ble_eq_true rfl) (Nat.le_of_ble_eq_true rfl) (k1 := 14) (n1 := 305) rfl rfl ?_
  refine b_eq rfl rfl ((ws_comm (Nat.ne_of_beq_eq_false rfl)).trans (congrArg (fun z => wset z 19 (ia 16 (fun _ => 0))) ws_same)) ?_
  refine b_putR C IN dX1_init_112 frRX1_52 (Nat.le_of_ble_eq_true rfl) (ws_ne (Nat.ne_of_beq_eq_false rfl) (ws_ne (Nat.ne_of_beq_eq_false rfl) (ws_ne (Nat.ne_of_beq_eq_false rfl) (ws_ne (Nat.ne_of_beq_eq_false rfl) (ws_ne (Nat.ne_of_beq_eq_false rfl) (ws_ne (Nat.ne_of_beq_eq_false rfl) (ws_ne (Nat.ne_of_beq_eq_false rfl) (ws_ne (Nat.ne_of_beq_eq_false rfl) (ws_ne (Nat.ne_of_beq_eq_false rfl) (ws_ne (Nat.ne_of_beq_eq_false rfl) (ws_ne (Nat.ne_of_beq_eq_false rfl) (ws_ne (Nat.ne_of_beq_eq_false rfl) (ws_ne (Nat.ne_of_beq_eq_false rfl) (ws_ne (Nat.ne_of_beq_eq_false rfl) ws_eq)))))))))))))) (Nat.le_of_ble_eq_true rfl) (fs' := [.int 3, .int 16, .int (-4), .int 0, .ref 6, .ref 8, .ref 10, .ref 12, .ref 14, .ref 16, .ref 18, .null, .null, .null, .null, .null, .null]) rfl ?_
  refine b_eq rfl rfl ((ws_comm (Nat.ne_of_beq_eq_false rfl)).trans (congrArg (fun z => wset z 19 (ia 16 (fun _ => 0))) ((ws_comm (Nat.ne_of_beq_eq_false rfl)).trans (congrArg (fun z => wset z 18 (ob 2 [.ref 19, .int 0, .int 0, .int 0, .int 0])) ((ws_comm (Nat.ne_of_beq_eq_false rfl)).trans (congrArg (fun z => wset z 17 (ia 16 (fun _ => 0))) ((ws_comm (Nat.ne_of_beq_eq_false rfl)).trans (congrArg (fun z => wset z 16 (ob 3 [.ref 17, .int 0])) ((ws_comm (Nat.ne_of_beq_eq_false rfl)).trans (congrArg (fun z => wset z 15 (ia 64 (fun _ => 0))) ((ws_comm (Nat.ne_of_beq_eq_false rfl)).trans (congrArg (fun z => wset z 14 (ob 3 [.ref 15, .int 0])) ((ws_comm (Nat.ne_of_beq_eq_false rfl)).trans (congrArg (fun z => wset z 13 (ia 64 (fun _ => 0))) ((ws_comm (Nat.ne_of_beq_eq_false rfl)).trans (congrArg (fun z => wset z 12 (ob 3 [.ref 13, .int 0])) ((ws_comm (Nat.ne_of_beq_eq_false rfl)).trans (congrArg (fun z => wset z 11 (ia 64 (fun _ => 0))) ((ws_comm (Nat.ne_of_beq_eq_false rfl)).trans (congrArg (fun z => wset z 10 (ob 3 [.ref 11, .int 0])) ((ws_comm (Nat.ne_of_beq_eq_false rfl)).trans (congrArg (fun z => wset z 9 (ia 32 (fun _ => 0))) ((ws_comm (Nat.ne_of_beq_eq_false rfl)).trans (congrArg (fun z => wset z 8 (ob 3 [.ref 9, .int 0])) ((ws_comm (Nat.ne_of_beq_eq_false rfl)).trans (congrArg (fun z => wset z 7 (ia 32 (fun _ => 0))) ((ws_comm (Nat.ne_of_beq_eq_false rfl)).trans (congrArg (fun z => wset z 6 (ob 3 [.ref 7, .int 0])) ws_same)))))))))))))))))))))))))))) ?_
  refine b_aload_n C dX1_init_115 rfl ?_
  refine b_new C G dX1_init_116 nwRX1_56 rfl (Nat.le_of_ble_eq_true rfl) (Nat.le_of_ble_eq_true rfl) (Nat.le_of_ble_eq_true rfl) (N1 := 21) (k1 := 15) (n1 := 306) rfl rfl rfl ?_
  refine b_dup C dX1_init_119 rfl ?_
  refine b_init C G (As := []) (rest := [.ref 20, .ref 5]) dX1_init_120 (cnX4_init ws_eq) okX4_init (Or.inr (List.mem_of_getElem? (i := 1) rfl)) ⟨by decide, by decide⟩ rfl rfl (Nat.le_of_ble_eq_true rfl) (Nat.le_of_ble_eq_true rfl) rfl rfl (Nat.le_of_ble_eq_true rfl) (Nat.le_of_ble_eq_true rfl) (Nat.le_of_ble_eq_true rfl) (k1 := 16) (n1 := 562) rfl rfl ?_
  refine b_eq rfl rfl ((ws_comm (Nat.ne_of_beq_eq_false rfl)).trans (congrArg (fun z => wset z 21 (ia 256 (fun _ => 0))) ws_same)) ?_
  refine b_putR C IN dX1_init_123 frRX1_59 (Nat.le_of_ble_eq_true rfl) (ws_ne (Nat.ne_of_beq_eq_false rfl) (ws_ne (Nat.ne_of_beq_eq_false rfl) (ws_ne (Nat.ne_of_beq_eq_false rfl) (ws_ne (Nat.ne_of_beq_eq_false rfl) (ws_ne (Nat.ne_of_beq_eq_false rfl) (ws_ne (Nat.ne_of_beq_eq_false rfl) (ws_ne (Nat.ne_of_beq_eq_false rfl) (ws_ne (Nat.ne_of_beq_eq_false rfl) (ws_ne (Nat.ne_of_beq_eq_false rfl) (ws_ne (Nat.ne_of_beq_eq_false rfl) (ws_ne (Nat.ne_of_beq_eq_false rfl) (ws_ne (Nat.ne_of_beq_eq_false rfl) (ws_ne (Nat.ne_of_beq_eq_false rfl) (ws_ne (Nat.ne_of_beq_eq_false rfl) (ws_ne (Nat.ne_of_beq_eq_false rfl) (ws_ne (Nat.ne_of_beq_eq_false rfl) ws_eq)))))))))))))))) (Nat.le_of_ble_eq_true rfl) (fs' := [.int 3, .int 16, .int (-4), .int 0, .ref 6, .ref 8, .ref 10, .ref 12, .ref 14, .ref 16, .ref 18, .ref 20, .null, .null, .null, .null, .null]) rfl ?_
  refine b_eq rfl rfl ((ws_comm (Nat.ne_of_beq_eq_false rfl)).trans (congrArg (fun z => wset z 21 (ia 256 (fun _ => 0))) ((ws_comm (Nat.ne_of_beq_eq_false rfl)).trans (congrArg (fun z => wset z 20 (ob 4 [.ref 21])) ((ws_comm (Nat.ne_of_beq_eq_false rfl)).trans (congrArg (fun z => wset z 19 (ia 16 (fun _ => 0))) ((ws_comm (Nat.ne_of_beq_eq_false rfl)).trans (congrArg (fun z => wset z 18 (ob 2 [.ref 19, .int 0, .int 0, .int 0, .int 0])) ((ws_comm (Nat.ne_of_beq_eq_false rfl)).trans (congrArg (fun z => wset z 17 (ia 16 (fun _ => 0))) ((ws_comm (Nat.ne_of_beq_eq_false rfl)).trans (congrArg (fun z => wset z 16 (ob 3 [.ref 17, .int 0])) ((ws_comm (Nat.ne_of_beq_eq_false rfl)).trans (congrArg (fun z => wset z 15 (ia 64 (fun _ => 0))) ((ws_comm (Nat.ne_of_beq_eq_false rfl)).trans (congrArg (fun z => wset z 14 (ob 3 [.ref 15, .int 0])) ((ws_comm (Nat.ne_of_beq_eq_false rfl)).trans (congrArg (fun z => wset z 13 (ia 64 (fun _ => 0))) ((ws_comm (Nat.ne_of_beq_eq_false rfl)).trans (congrArg (fun z => wset z 12 (ob 3 [.ref 13, .int 0])) ((ws_comm (Nat.ne_of_beq_eq_false rfl)).trans (congrArg (fun z => wset z 11 (ia 64 (fun _ => 0))) ((ws_comm (Nat.ne_of_beq_eq_false rfl)).trans (congrArg (fun z => wset z 10 (ob 3 [.ref 11, .int 0])) ((ws_comm (Nat.ne_of_beq_eq_false rfl)).trans (congrArg (fun z => wset z 9 (ia 32 (fun _ => 0))) ((ws_comm (Nat.ne_of_beq_eq_false rfl)).trans (congrArg (fun z => wset z 8 (ob 3 [.ref 9, .int 0])) ((ws_comm (Nat.ne_of_beq_eq_false rfl)).trans (congrArg (fun z => wset z 7 (ia 32 (fun _ => 0))) ((ws_comm (Nat.ne_of_beq_eq_false rfl)).trans (congrArg (fun z => wset z 6 (ob 3 [.ref 7, .int 0])) ws_same)))))))))))))))))))))))))))))))) ?_
  refine b_aload_n C dX1_init_126 rfl ?_
  refine b_new C G dX1_init_127 nwRX1_63 rfl (Nat.le_of_ble_eq_true rfl) (Nat.le_of_ble_eq_true rfl) (Nat.le_of_ble_eq_true rfl) (N1 := 23) (k1 := 17) (n1 := 566) rfl rfl rfl ?_
  refine b_dup C dX1_init_130 rfl ?_
  refine b_init C G (As := []) (rest := [.ref 22, .ref 5]) dX1_init_131 (cnX0_init ws_eq) okX0_init (Or.inl miRX1_65) ⟨by decide, by decide⟩ rfl rfl (Nat.le_of_ble_eq_true rfl) (Nat.le_of_ble_eq_true rfl) rfl rfl (Nat.le_of_ble_eq_true rfl) (Nat.le_of_ble_eq_true rfl) (Nat.le_of_ble_eq_true rfl) (k1 := 21) (n1 := 1030) rfl rfl ?_
  refine b_eq rfl rfl (congrArg (fun z => wset (wset (wset (z) 24 (ia 176 (fun _ => 0))) 25 (ia 16 (fun _ => 0))) 26 (ia 16 (fun _ => 0))) ((ws_comm (Nat.ne_of_beq_eq_false rfl)).trans (congrArg (fun z => wset z 23 (ia 256 (nf (sbI 256)))) ws_same))) ?_
  refine b_putR C IN dX1_init_134 frRX1_66 (Nat.le_of_ble_eq_true rfl) (ws_ne (Nat.ne_of_beq_eq_false rfl) (ws_ne (Nat.ne_of_beq_eq_false rfl) (ws_ne (Nat.ne_of_beq_eq_false rfl) (ws_ne (Nat.ne_of_beq_eq_false rfl) (ws_ne (Nat.ne_of_beq_eq_false rfl) (ws_ne (Nat.ne_of_beq_eq_false rfl) (ws_ne (Nat.ne_of_beq_eq_false rfl) (ws_ne (Nat.ne_of_beq_eq_false rfl) (ws_ne (Nat.ne_of_beq_eq_false rfl) (ws_ne (Nat.ne_of_beq_eq_false rfl) (ws_ne (Nat.ne_of_beq_eq_false rfl) (ws_ne (Nat.ne_of_beq_eq_false rfl) (ws_ne (Nat.ne_of_beq_eq_false rfl) (ws_ne (Nat.ne_of_beq_eq_false rfl) (ws_ne (Nat.ne_of_beq_eq_false rfl) (ws_ne (Nat.ne_of_beq_eq_false rfl) (ws_ne (Nat.ne_of_beq_eq_false rfl) (ws_ne (Nat.ne_of_beq_eq_false rfl) (ws_ne (Nat.ne_of_beq_eq_false rfl) (ws_ne (Nat.ne_of_beq_eq_false rfl) (ws_ne (Nat.ne_of_beq_eq_false rfl) ws_eq))))))))))))))))))))) (Nat.le_of_ble_eq_true rfl) (fs' := [.int 3, .int 16, .int (-4), .int 0, .ref 6, .ref 8, .ref 10, .ref 12, .ref 14, .ref 16, .ref 18, .ref 20, .ref 22, .null, .null, .null, .null]) rfl ?_
  refine b_eq rfl rfl ((ws_comm (Nat.ne_of_beq_eq_false rfl)).trans (congrArg (fun z => wset z 26 (ia 16 (fun _ => 0))) ((ws_comm (Nat.ne_of_beq_eq_false rfl)).trans (congrArg (fun z => wset z 25 (ia 16 (fun _ => 0))) ((ws_comm (Nat.ne_of_beq_eq_false rfl)).trans (congrArg (fun z => wset z 24 (ia 176 (fun _ => 0))) ((ws_comm (Nat.ne_of_beq_eq_false rfl)).trans (congrArg (fun z => wset z 23 (ia 256 (nf (sbI 256)))) ((ws_comm (Nat.ne_of_beq_eq_false rfl)).trans (congrArg (fun z => wset z 22 (ob 0 [.ref 23, .ref 24, .ref 25, .ref 26])) ((ws_comm (Nat.ne_of_beq_eq_false rfl)).trans (congrArg (fun z => wset z 21 (ia 256 (fun _ => 0))) ((ws_comm (Nat.ne_of_beq_eq_false rfl)).trans (congrArg (fun z => wset z 20 (ob 4 [.ref 21])) ((ws_comm (Nat.ne_of_beq_eq_false rfl)).trans (congrArg (fun z => wset z 19 (ia 16 (fun _ => 0))) ((ws_comm (Nat.ne_of_beq_eq_false rfl)).trans (congrArg (fun z => wset z 18 (ob 2 [.ref 19, .int 0, .int 0, .int 0, .int 0])) ((ws_comm (Nat.ne_of_beq_eq_false rfl)).trans (congrArg (fun z => wset z 17 (ia 16 (fun _ => 0))) ((ws_comm (Nat.ne_of_beq_eq_false rfl)).trans (congrArg (fun z => wset z 16 (ob 3 [.ref 17, .int 0])) ((ws_comm (Nat.ne_of_beq_eq_false rfl)).trans (congrArg (fun z => wset z 15 (ia 64 (fun _ => 0))) ((ws_comm (Nat.ne_of_beq_eq_false rfl)).trans (congrArg (fun z => wset z 14 (ob 3 [.ref 15, .int 0])) ((ws_comm (Nat.ne_of_beq_eq_false rfl)).trans (congrArg (fun z => wset z 13 (ia 64 (fun _ => 0))) ((ws_comm (Nat.ne_of_beq_eq_false rfl)).trans (congrArg (fun z => wset z 12 (ob 3 [.ref 13, .int 0])) ((ws_comm (Nat.ne_of_beq_eq_false rfl)).trans (congrArg (fun z => wset z 11 (ia 64 (fun _ => 0))) ((ws_comm (Nat.ne_of_beq_eq_false rfl)).trans (congrArg (fun z => wset z 10 (ob 3 [.ref 11, .int 0])) ((ws_comm (Nat.ne_of_beq_eq_false rfl)).trans (congrArg (fun z => wset z 9 (ia 32 (fun _ => 0))) ((ws_comm (Nat.ne_of_beq_eq_false rfl)).trans (congrArg (fun z => wset z 8 (ob 3 [.ref 9, .int 0])) ((ws_comm (Nat.ne_of_beq_eq_false rfl)).trans (congrArg (fun z => wset z 7 (ia 32 (fun _ => 0))) ((ws_comm (Nat.ne_of_beq_eq_false rfl)).trans (congrArg (fun z => wset z 6 (ob 3 [.ref 7, .int 0])) ws_same)))))))))))))))))))))))))))))))))))))))))) ?_
  refine b_aload_n C dX1_init_137 rfl ?_
  refine b_new C G dX1_init_138 nwRX1_25 rfl (Nat.le_of_ble_eq_true rfl) (Nat.le_of_ble_eq_true rfl) (Nat.le_of_ble_eq_true rfl) (N1 := 28) (k1 := 22) (n1 := 1032) rfl rfl rfl ?_
  refine b_dup C dX1_init_141 rfl ?_
  refine b_sipush C dX1_init_142 (v := 136) (by decide) ?_
  refine b_init C G (As := [.int 136]) (rest := [.ref 27, .ref 5]) dX1_init_145 (cRow 136 (Nat.le_of_ble_eq_true rfl) (a := 27) (N := 28) (Nat.le_of_ble_eq_true rfl) (Nat.le_of_ble_eq_true rfl) ws_eq) (okRow 136) (Or.inl miRX1_27) ⟨by decide, by decide⟩ rfl rfl (Nat.le_of_ble_eq_true rfl) (Nat.le_of_ble_eq_true rfl) rfl rfl (Nat.le_of_ble_eq_true rfl) (Nat.le_of_ble_eq_true rfl) (Nat.le_of_ble_eq_true rfl) (k1 := 23) (n1 := 1168) rfl rfl ?_
  refine b_eq rfl rfl ((ws_comm (Nat.ne_of_beq_eq_false rfl)).trans (congrArg (fun z => wset z 28 (ia 136 (fun _ => 0))) ws_same)) ?_
  refine b_putR C IN dX1_init_148 frRX1_70 (Nat.le_of_ble_eq_true rfl) (ws_ne (Nat.ne_of_beq_eq_false rfl) (ws_ne (Nat.ne_of_beq_eq_false rfl) (ws_ne (Nat.ne_of_beq_eq_false rfl) (ws_ne (Nat.ne_of_beq_eq_false rfl) (ws_ne (Nat.ne_of_beq_eq_false rfl) (ws_ne (Nat.ne_of_beq_eq_false rfl) (ws_ne (Nat.ne_of_beq_eq_false rfl) (ws_ne (Nat.ne_of_beq_eq_false rfl) (ws_ne (Nat.ne_of_beq_eq_false rfl) (ws_ne (Nat.ne_of_beq_eq_false rfl) (ws_ne (Nat.ne_of_beq_eq_false rfl) (ws_ne (Nat.ne_of_beq_eq_false rfl) (ws_ne (Nat.ne_of_beq_eq_false rfl) (ws_ne (Nat.ne_of_beq_eq_false rfl) (ws_ne (Nat.ne_of_beq_eq_false rfl) (ws_ne (Nat.ne_of_beq_eq_false rfl) (ws_ne (Nat.ne_of_beq_eq_false rfl) (ws_ne (Nat.ne_of_beq_eq_false rfl) (ws_ne (Nat.ne_of_beq_eq_false rfl) (ws_ne (Nat.ne_of_beq_eq_false rfl) (ws_ne (Nat.ne_of_beq_eq_false rfl) (ws_ne (Nat.ne_of_beq_eq_false rfl) (ws_ne (Nat.ne_of_beq_eq_false rfl) ws_eq))))))))))))))))))))))) (Nat.le_of_ble_eq_true rfl) (fs' := [.int 3, .int 16, .int (-4), .int 0, .ref 6, .ref 8, .ref 10, .ref 12, .ref 14, .ref 16, .ref 18, .ref 20, .ref 22, .ref 27, .null, .null, .null]) rfl ?_
  refine b_eq rfl rfl ((ws_comm (Nat.ne_of_beq_eq_false rfl)).trans (congrArg (fun z => wset z 28 (ia 136 (fun _ => 0))) ((ws_comm (Nat.ne_of_beq_eq_false rfl)).trans (congrArg (fun z => wset z 27 (ob 3 [.ref 28, .int 0])) ((ws_comm (Nat.ne_of_beq_eq_false rfl)).trans (congrArg (fun z => wset z 26 (ia 16 (fun _ => 0))) ((ws_comm (Nat.ne_of_beq_eq_false rfl)).trans (congrArg (fun z => wset z 25 (ia 16 (fun _ => 0))) ((ws_comm (Nat.ne_of_beq_eq_false rfl)).trans (congrArg (fun z => wset z 24 (ia 176 (fun _ => 0))) ((ws_comm (Nat.ne_of_beq_eq_false rfl)).trans (congrArg (fun z => wset z 23 (ia 256 (nf (sbI 256)))) ((ws_comm (Nat.ne_of_beq_eq_false rfl)).trans (congrArg (fun z => wset z 22 (ob 0 [.ref 23, .ref 24, .ref 25, .ref 26])) ((ws_comm (Nat.ne_of_beq_eq_false rfl)).trans (congrArg (fun z => wset z 21 (ia 256 (fun _ => 0))) ((ws_comm (Nat.ne_of_beq_eq_false rfl)).trans (congrArg (fun z => wset z 20 (ob 4 [.ref 21])) ((ws_comm (Nat.ne_of_beq_eq_false rfl)).trans (congrArg (fun z => wset z 19 (ia 16 (fun _ => 0))) ((ws_comm (Nat.ne_of_beq_eq_false rfl)).trans (congrArg (fun z => wset z 18 (ob 2 [.ref 19, .int 0, .int 0, .int 0, .int 0])) ((ws_comm (Nat.ne_of_beq_eq_false rfl)).trans (congrArg (fun z => wset z 17 (ia 16 (fun _ => 0))) ((ws_comm (Nat.ne_of_beq_eq_false rfl)).trans (congrArg (fun z => wset z 16 (ob 3 [.ref 17, .int 0])) ((ws_comm (Nat.ne_of_beq_eq_false rfl)).trans (congrArg (fun z => wset z 15 (ia 64 (fun _ => 0))) ((ws_comm (Nat.ne_of_beq_eq_false rfl)).trans (congrArg (fun z => wset z 14 (ob 3 [.ref 15, .int 0])) ((ws_comm (Nat.ne_of_beq_eq_false rfl)).trans (congrArg (fun z => wset z 13 (ia 64 (fun _ => 0))) ((ws_comm (Nat.ne_of_beq_eq_false rfl)).trans (congrArg (fun z => wset z 12 (ob 3 [.ref 13, .int 0])) ((ws_comm (Nat.ne_of_beq_eq_false rfl)).trans (congrArg (fun z => wset z 11 (ia 64 (fun _ => 0))) ((ws_comm (Nat.ne_of_beq_eq_false rfl)).trans (congrArg (fun z => wset z 10 (ob 3 [.ref 11, .int 0])) ((ws_comm (Nat.ne_of_beq_eq_false rfl)).trans (congrArg (fun z => wset z 9 (ia 32 (fun _ => 0))) ((ws_comm (Nat.ne_of_beq_eq_false rfl)).trans (congrArg (fun z => wset z 8 (ob 3 [.ref 9, .int 0])) ((ws_comm (Nat.ne_of_beq_eq_false rfl)).trans (congrArg (fun z => wset z 7 (ia 32 (fun _ => 0))) ((ws_comm (Nat.ne_of_beq_eq_false rfl)).trans (congrArg (fun z => wset z 6 (ob 3 [.ref 7, .int 0])) ws_same)))))))))))))))))))))))))))))))))))))))))))))) ?_
  refine b_aload_n C dX1_init_151 rfl ?_
  refine b_new C G dX1_init_152 nwRX1_25 rfl (Nat.le_of_ble_eq_true rfl) (Nat.le_of_ble_eq_true rfl) (Nat.le_of_ble_eq_true rfl) (N1 := 30) (k1 := 24) (n1 := 1170) rfl rfl rfl ?_
  refine b_dup C dX1_init_155 rfl ?_
  refine b_bipush C dX1_init_156 (v := 16) (by decide) ?_
  refine b_init C G (As := [.int 16]) (rest := [.ref 29, .ref 5]) dX1_init_158 (cRow 16 (Nat.le_of_ble_eq_true rfl) (a := 29) (N := 30) (Nat.le_of_ble_eq_true rfl) (Nat.le_of_ble_eq_true rfl) ws_eq) (okRow 16) (Or.inl miRX1_27) ⟨by decide, by decide⟩ rfl rfl (Nat.le_of_ble_eq_true rfl) (Nat.le_of_ble_eq_true rfl) rfl rfl (Nat.le_of_ble_eq_true rfl) (Nat.le_of_ble_eq_true rfl) (Nat.le_of_ble_eq_true rfl) (k1 := 25) (n1 := 1186) rfl rfl ?_
  refine b_eq rfl rfl ((ws_comm (Nat.ne_of_beq_eq_false rfl)).trans (congrArg (fun z => wset z 30 (ia 16 (fun _ => 0))) ws_same)) ?_
  refine b_putR C IN dX1_init_161 frRX1_73 (Nat.le_of_ble_eq_true rfl) (ws_ne (Nat.ne_of_beq_eq_false rfl) (ws_ne (Nat.ne_of_beq_eq_false rfl) (ws_ne (Nat.ne_of_beq_eq_false rfl) (ws_ne (Nat.ne_of_beq_eq_false rfl) (ws_ne (Nat.ne_of_beq_eq_false rfl) (ws_ne (Nat.ne_of_beq_eq_false rfl) (ws_ne (Nat.ne_of_beq_eq_false rfl) (ws_ne (Nat.ne_of_beq_eq_false rfl) (ws_ne (Nat.ne_of_beq_eq_false rfl) (ws_ne (Nat.ne_of_beq_eq_false rfl) (ws_ne (Nat.ne_of_beq_eq_false rfl) (ws_ne (Nat.ne_of_beq_eq_false rfl) (ws_ne (Nat.ne_of_beq_eq_false rfl) (ws_ne (Nat.ne_of_beq_eq_false rfl) (ws_ne (Nat.ne_of_beq_eq_false rfl) (ws_ne (Nat.ne_of_beq_eq_false rfl) (ws_ne (Nat.ne_of_beq_eq_false rfl) (ws_ne (Nat.ne_of_beq_eq_false rfl) (ws_ne (Nat.ne_of_beq_eq_false rfl) (ws_ne (Nat.ne_of_beq_eq_false rfl) (ws_ne (Nat.ne_of_beq_eq_false rfl) (ws_ne (Nat.ne_of_beq_eq_false rfl) (ws_ne (Nat.ne_of_beq_eq_false rfl) (ws_ne (Nat.ne_of_beq_eq_false rfl) (ws_ne (Nat.ne_of_beq_eq_false rfl) ws_eq))))))))))))))))))))))))) (Nat.le_of_ble_eq_true rfl) (fs' := [.int 3, .int 16, .int (-4), .int 0, .ref 6, .ref 8, .ref 10, .ref 12, .ref 14, .ref 16, .ref 18, .ref 20, .ref 22, .ref 27, .ref 29, .null, .null]) rfl ?_
  refine b_eq rfl rfl ((ws_comm (Nat.ne_of_beq_eq_false rfl)).trans (congrArg (fun z => wset z 30 (ia 16 (fun _ => 0))) ((ws_comm (Nat.ne_of_beq_eq_false rfl)).trans (congrArg (fun z => wset z 29 (ob 3 [.ref 30, .int 0])) ((ws_comm (Nat.ne_of_beq_eq_false rfl)).trans (congrArg (fun z => wset z 28 (ia 136 (fun _ => 0))) ((ws_comm (Nat.ne_of_beq_eq_false rfl)).trans (congrArg (fun z => wset z 27 (ob 3 [.ref 28, .int 0])) ((ws_comm (Nat.ne_of_beq_eq_false rfl)).trans (congrArg (fun z => wset z 26 (ia 16 (fun _ => 0))) ((ws_comm (Nat.ne_of_beq_eq_false rfl)).trans (congrArg (fun z => wset z 25 (ia 16 (fun _ => 0))) ((ws_comm (Nat.ne_of_beq_eq_false rfl)).trans (congrArg (fun z => wset z 24 (ia 176 (fun _ => 0))) ((ws_comm (Nat.ne_of_beq_eq_false rfl)).trans (congrArg (fun z => wset z 23 (ia 256 (nf (sbI 256)))) ((ws_comm (Nat.ne_of_beq_eq_false rfl)).trans (congrArg (fun z => wset z 22 (ob 0 [.ref 23, .ref 24, .ref 25, .ref 26])) ((ws_comm (Nat.ne_of_beq_eq_false rfl)).trans (congrArg (fun z => wset z 21 (ia 256 (fun _ => 0))) ((ws_comm (Nat.ne_of_beq_eq_false rfl)).trans (congrArg (fun z => wset z 20 (ob 4 [.ref 21])) ((ws_comm (Nat.ne_of_beq_eq_false rfl)).trans (congrArg (fun z => wset z 19 (ia 16 (fun _ => 0))) ((ws_comm (Nat.ne_of_beq_eq_false rfl)).trans (congrArg (fun z => wset z 18 (ob 2 [.ref 19, .int 0, .int 0, .int 0, .int 0])) ((ws_comm (Nat.ne_of_beq_eq_false rfl)).trans (congrArg (fun z => wset z 17 (ia 16 (fun _ => 0))) ((ws_comm (Nat.ne_of_beq_eq_false rfl)).trans (congrArg (fun z => wset z 16 (ob 3 [.ref 17, .int 0])) ((ws_comm (Nat.ne_of_beq_eq_false rfl)).trans (congrArg (fun z => wset z 15 (ia 64 (fun _ => 0))) ((ws_comm (Nat.ne_of_beq_eq_false rfl)).trans (congrArg (fun z => wset z 14 (ob 3 [.ref 15, .int 0])) ((ws_comm (Nat.ne_of_beq_eq_false rfl)).trans (congrArg (fun z => wset z 13 (ia 64 (fun _ => 0))) ((ws_comm (Nat.ne_of_beq_eq_false rfl)).trans (congrArg (fun z => wset z 12 (ob 3 [.ref 13, .int 0])) ((ws_comm (Nat.ne_of_beq_eq_false rfl)).trans (congrArg (fun z => wset z 11 (ia 64 (fun _ => 0))) ((ws_comm (Nat.ne_of_beq_eq_false rfl)).trans (congrArg (fun z => wset z 10 (ob 3 [.ref 11, .int 0])) ((ws_comm (Nat.ne_of_beq_eq_false rfl)).trans (congrArg (fun z => wset z 9 (ia 32 (fun _ => 0))) ((ws_comm (Nat.ne_of_beq_eq_false rfl)).trans (congrArg (fun z => wset z 8 (ob 3 [.ref 9, .int 0])) ((ws_comm (Nat.ne_of_beq_eq_false rfl)).trans (congrArg (fun z => wset z 7 (ia 32 (fun _ => 0))) ((ws_comm (Nat.ne_of_beq_eq_false rfl)).trans (congrArg (fun z => wset z 6 (ob 3 [.ref 7, .int 0])) ws_same)))))))))))))))))))))))))))))))))))))))))))))))))) ?_
  refine b_aload_n C dX1_init_164 rfl ?_
  refine b_new C G dX1_init_165 nwRX1_25 rfl (Nat.le_of_ble_eq_true rfl) (Nat.le_of_ble_eq_true rfl) (Nat.le_of_ble_eq_true rfl) (N1 := 32) (k1 := 26) (n1 := 1188) rfl rfl rfl ?_
  refine b_dup C dX1_init_168 rfl ?_
  refine b_bipush C dX1_init_169 (v := 32) (by decide) ?_
  refine b_init C G (As := [.int 32]) (rest := [.ref 31, .ref 5]) dX1_init_171 (cRow 32 (Nat.le_of_ble_eq_true rfl) (a := 31) (N := 32) (Nat.le_of_ble_eq_true rfl) (Nat.le_of_ble_eq_true rfl) ws_eq) (okRow 32) (Or.inl miRX1_27) ⟨by decide, by decide⟩ rfl rfl (Nat.le_of_ble_eq_true rfl) (Nat.le_of_ble_eq_true rfl) rfl rfl (Nat.le_of_ble_eq_true rfl) (Nat.le_of_ble_eq_true rfl) (Nat.le_of_ble_eq_true rfl) (k1 := 27) (n1 := 1220) rfl rfl ?_
  refine b_eq rfl rfl ((ws_comm (Nat.ne_of_beq_eq_false rfl)).trans (congrArg (fun z => wset z 32 (ia 32 (fun _ => 0))) ws_same)) ?_
  refine b_putR C IN dX1_init_174 frRX1_76 (Nat.le_of_ble_eq_true rfl) (ws_ne (Nat.ne_of_beq_eq_false rfl) (ws_ne (Nat.ne_of_beq_eq_false rfl) (ws_ne (Nat.ne_of_beq_eq_false rfl) (ws_ne (Nat.ne_of_beq_eq_false rfl) (ws_ne (Nat.ne_of_beq_eq_false rfl) (ws_ne (Nat.ne_of_beq_eq_false rfl) (ws_ne (Nat.ne_of_beq_eq_false rfl) (ws_ne (Nat.ne_of_beq_eq_false rfl) (ws_ne (Nat.ne_of_beq_eq_false rfl) (ws_ne (Nat.ne_of_beq_eq_false rfl) (ws_ne (Nat.ne_of_beq_eq_false rfl) (ws_ne (Nat.ne_of_beq_eq_false rfl) (ws_ne (Nat.ne_of_beq_eq_false rfl) (ws_ne (Nat.ne_of_beq_eq_false rfl) (ws_ne (Nat.ne_of_beq_eq_false rfl) (ws_ne (Nat.ne_of_beq_eq_false rfl) (ws_ne (Nat.ne_of_beq_eq_false rfl) (ws_ne (Nat.ne_of_beq_eq_false rfl) (ws_ne (Nat.ne_of_beq_eq_false rfl) (ws_ne (Nat.ne_of_beq_eq_false rfl) (ws_ne (Nat.ne_of_beq_eq_false rfl) (ws_ne (Nat.ne_of_beq_eq_false rfl) (ws_ne (Nat.ne_of_beq_eq_false rfl) (ws_ne (Nat.ne_of_beq_eq_false rfl) (ws_ne (Nat.ne_of_beq_eq_false rfl) (ws_ne (Nat.ne_of_beq_eq_false rfl) (ws_ne (Nat.ne_of_beq_eq_false rfl) ws_eq))))))))))))))))))))))))))) (Nat.le_of_ble_eq_true rfl) (fs' := [.int 3, .int 16, .int (-4), .int 0, .ref 6, .ref 8, .ref 10, .ref 12, .ref 14, .ref 16, .ref 18, .ref 20, .ref 22, .ref 27, .ref 29, .ref 31, .null]) rfl ?_
  refine b_eq rfl rfl ((ws_comm (Nat.ne_of_beq_eq_false rfl)).trans (congrArg (fun z => wset z 32 (ia 32 (fun _ => 0))) ((ws_comm (Nat.ne_of_beq_eq_false rfl)).trans (congrArg (fun z => wset z 31 (ob 3 [.ref 32, .int 0])) ((ws_comm (Nat.ne_of_beq_eq_false rfl)).trans (congrArg (fun z => wset z 30 (ia 16 (fun _ => 0))) ((ws_comm (Nat.ne_of_beq_eq_false rfl)).trans (congrArg (fun z => wset z 29 (ob 3 [.ref 30, .int 0])) ((ws_comm (Nat.ne_of_beq_eq_false rfl)).trans (congrArg (fun z => wset z 28 (ia 136 (fun _ => 0))) ((ws_comm (Nat.ne_of_beq_eq_false rfl)).trans (congrArg (fun z => wset z 27 (ob 3 [.ref 28, .int 0])) ((ws_comm (Nat.ne_of_beq_eq_false rfl)).trans (congrArg (fun z => wset z 26 (ia 16 (fun _ => 0))) ((ws_comm (Nat.ne_of_beq_eq_false rfl)).trans (congrArg (fun z => wset z 25 (ia 16 (fun _ => 0))) ((ws_comm (Nat.ne_of_beq_eq_false rfl)).trans (congrArg (fun z => wset z 24 (ia 176 (fun _ => 0))) ((ws_comm (Nat.ne_of_beq_eq_false rfl)).trans (congrArg (fun z => wset z 23 (ia 256 (nf (sbI 256)))) ((ws_comm (Nat.ne_of_beq_eq_false rfl)).trans (congrArg (fun z => wset z 22 (ob 0 [.ref 23, .ref 24, .ref 25, .ref 26])) ((ws_comm (Nat.ne_of_beq_eq_false rfl)).trans (congrArg (fun z => wset z 21 (ia 256 (fun _ => 0))) ((ws_comm (Nat.ne_of_beq_eq_false rfl)).trans (congrArg (fun z => wset z 20 (ob 4 [.ref 21])) ((ws_comm (Nat.ne_of_beq_eq_false rfl)).trans (congrArg (fun z => wset z 19 (ia 16 (fun _ => 0))) ((ws_comm (Nat.ne_of_beq_eq_false rfl)).trans (congrArg (fun z => wset z 18 (ob 2 [.ref 19, .int 0, .int 0, .int 0, .int 0])) ((ws_comm (Nat.ne_of_beq_eq_false rfl)).trans (congrArg (fun z => wset z 17 (ia 16 (fun _ => 0))) ((ws_comm (Nat.ne_of_beq_eq_false rfl)).trans (congrArg (fun z => wset z 16 (ob 3 [.ref 17, .int 0])) ((ws_comm (Nat.ne_of_beq_eq_false rfl)).trans (congrArg (fun z => wset z 15 (ia 64 (fun _ => 0))) ((ws_comm (Nat.ne_of_beq_eq_false rfl)).trans (congrArg (fun z => wset z 14 (ob 3 [.ref 15, .int 0])) ((ws_comm (Nat.ne_of_beq_eq_false rfl)).trans (congrArg (fun z => wset z 13 (ia 64 (fun _ => 0))) ((ws_comm (Nat.ne_of_beq_eq_false rfl)).trans (congrArg (fun z => wset z 12 (ob 3 [.ref 13, .int 0])) ((ws_comm (Nat.ne_of_beq_eq_false rfl)).trans (congrArg (fun z => wset z 11 (ia 64 (fun _ => 0))) ((ws_comm (Nat.ne_of_beq_eq_false rfl)).trans (congrArg (fun z => wset z 10 (ob 3 [.ref 11, .int 0])) ((ws_comm (Nat.ne_of_beq_eq_false rfl)).trans (congrArg (fun z => wset z 9 (ia 32 (fun _ => 0))) ((ws_comm (Nat.ne_of_beq_eq_false rfl)).trans (congrArg (fun z => wset z 8 (ob 3 [.ref 9, .int 0])) ((ws_comm (Nat.ne_of_beq_eq_false rfl)).trans (congrArg (fun z => wset z 7 (ia 32 (fun _ => 0))) ((ws_comm (Nat.ne_of_beq_eq_false rfl)).trans (congrArg (fun z => wset z 6 (ob 3 [.ref 7, .int 0])) ws_same)))))))))))))))))))))))))))))))))))))))))))))))))))))) ?_
  refine b_aload_n C dX1_init_177 rfl ?_
  refine b_new C G dX1_init_178 nwRX1_25 rfl (Nat.le_of_ble_eq_true rfl) (Nat.le_of_ble_eq_true rfl) (Nat.le_of_ble_eq_true rfl) (N1 := 34) (k1 := 28) (n1 := 1222) rfl rfl rfl ?_
  refine b_dup C dX1_init_181 rfl ?_
  refine b_bipush C dX1_init_182 (v := 32) (by decide) ?_
  refine b_init C G (As := [.int 32]) (rest := [.ref 33, .ref 5]) dX1_init_184 (cRow 32 (Nat.le_of_ble_eq_true rfl) (a := 33) (N := 34) (Nat.le_of_ble_eq_true rfl) (Nat.le_of_ble_eq_true rfl) ws_eq) (okRow 32) (Or.inl miRX1_27) ⟨by decide, by decide⟩ rfl rfl (Nat.le_of_ble_eq_true rfl) (Nat.le_of_ble_eq_true rfl) rfl rfl (Nat.le_of_ble_eq_true rfl) (Nat.le_of_ble_eq_true rfl) (Nat.le_of_ble_eq_true rfl) (k1 := 29) (n1 := 1254) rfl rfl ?_
  refine b_eq rfl rfl ((ws_comm (Nat.ne_of_beq_eq_false rfl)).trans (congrArg (fun z => wset z 34 (ia 32 (fun _ => 0))) ws_same)) ?_
  refine b_putR C IN dX1_init_187 frRX1_79 (Nat.le_of_ble_eq_true rfl) (ws_ne (Nat.ne_of_beq_eq_false rfl) (ws_ne (Nat.ne_of_beq_eq_false rfl) (ws_ne (Nat.ne_of_beq_eq_false rfl) (ws_ne (Nat.ne_of_beq_eq_false rfl) (ws_ne (Nat.ne_of_beq_eq_false rfl) (ws_ne (Nat.ne_of_beq_eq_false rfl) (ws_ne (Nat.ne_of_beq_eq_false rfl) (ws_ne (Nat.ne_of_beq_eq_false rfl) (ws_ne (Nat.ne_of_beq_eq_false rfl) (ws_ne (Nat.ne_of_beq_eq_false rfl) (ws_ne (Nat.ne_of_beq_eq_false rfl) (ws_ne (Nat.ne_of_beq_eq_false rfl) (ws_ne (Nat.ne_of_beq_eq_false rfl) (ws_ne (Nat.ne_of_beq_eq_false rfl) (ws_ne (Nat.ne_of_beq_eq_false rfl) (ws_ne (Nat.ne_of_beq_eq_false rfl) (ws_ne (Nat.ne_of_beq_eq_false rfl) (ws_ne (Nat.ne_of_beq_eq_false rfl) (ws_ne (Nat.ne_of_beq_eq_false rfl) (ws_ne (Nat.ne_of_beq_eq_false rfl) (ws_ne (Nat.ne_of_beq_eq_false rfl) (ws_ne (Nat.ne_of_beq_eq_false rfl) (ws_ne (Nat.ne_of_beq_eq_false rfl) (ws_ne (Nat.ne_of_beq_eq_false rfl) (ws_ne (Nat.ne_of_beq_eq_false rfl) (ws_ne (Nat.ne_of_beq_eq_false rfl) (ws_ne (Nat.ne_of_beq_eq_false rfl) (ws_ne (Nat.ne_of_beq_eq_false rfl) (ws_ne (Nat.ne_of_beq_eq_false rfl) ws_eq))))))))))))))))))))))))))))) (Nat.le_of_ble_eq_true rfl) (fs' := [.int 3, .int 16, .int (-4), .int 0, .ref 6, .ref 8, .ref 10, .ref 12, .ref 14, .ref 16, .ref 18, .ref 20, .ref 22, .ref 27, .ref 29, .ref 31, .ref 33]) rfl ?_
  refine b_eq rfl rfl ((ws_comm (Nat.ne_of_beq_eq_false rfl)).trans (congrArg (fun z => wset z 34 (ia 32 (fun _ => 0))) ((ws_comm (Nat.ne_of_beq_eq_false rfl)).trans (congrArg (fun z => wset z 33 (ob 3 [.ref 34, .int 0])) ((ws_comm (Nat.ne_of_beq_eq_false rfl)).trans (congrArg (fun z => wset z 32 (ia 32 (fun _ => 0))) ((ws_comm (Nat.ne_of_beq_eq_false rfl)).trans (congrArg (fun z => wset z 31 (ob 3 [.ref 32, .int 0])) ((ws_comm (Nat.ne_of_beq_eq_false rfl)).trans (congrArg (fun z => wset z 30 (ia 16 (fun _ => 0))) ((ws_comm (Nat.ne_of_beq_eq_false rfl)).trans (congrArg (fun z => wset z 29 (ob 3 [.ref 30, .int 0])) ((ws_comm (Nat.ne_of_beq_eq_false rfl)).trans (congrArg (fun z => wset z 28 (ia 136 (fun _ => 0))) ((ws_comm (Nat.ne_of_beq_eq_false rfl)).trans (congrArg (fun z => wset z 27 (ob 3 [.ref 28, .int 0])) ((ws_comm (Nat.ne_of_beq_eq_false rfl)).trans (congrArg (fun z => wset z 26 (ia 16 (fun _ => 0))) ((ws_comm (Nat.ne_of_beq_eq_false rfl)).trans (congrArg (fun z => wset z 25 (ia 16 (fun _ => 0))) ((ws_comm (Nat.ne_of_beq_eq_false rfl)).trans (congrArg (fun z => wset z 24 (ia 176 (fun _ => 0))) ((ws_comm (Nat.ne_of_beq_eq_false rfl)).trans (congrArg (fun z => wset z 23 (ia 256 (nf (sbI 256)))) ((ws_comm (Nat.ne_of_beq_eq_false rfl)).trans (congrArg (fun z => wset z 22 (ob 0 [.ref 23, .ref 24, .ref 25, .ref 26])) ((ws_comm (Nat.ne_of_beq_eq_false rfl)).trans (congrArg (fun z => wset z 21 (ia 256 (fun _ => 0))) ((ws_comm (Nat.ne_of_beq_eq_false rfl)).trans (congrArg (fun z => wset z 20 (ob 4 [.ref 21])) ((ws_comm (Nat.ne_of_beq_eq_false rfl)).trans (congrArg (fun z => wset z 19 (ia 16 (fun _ => 0))) ((ws_comm (Nat.ne_of_beq_eq_false rfl)).trans (congrArg (fun z => wset z 18 (ob 2 [.ref 19, .int 0, .int 0, .int 0, .int 0])) ((ws_comm (Nat.ne_of_beq_eq_false rfl)).trans (congrArg (fun z => wset z 17 (ia 16 (fun _ => 0))) ((ws_comm (Nat.ne_of_beq_eq_false rfl)).trans (congrArg (fun z => wset z 16 (ob 3 [.ref 17, .int 0])) ((ws_comm (Nat.ne_of_beq_eq_false rfl)).trans (congrArg (fun z => wset z 15 (ia 64 (fun _ => 0))) ((ws_comm (Nat.ne_of_beq_eq_false rfl)).trans (congrArg (fun z => wset z 14 (ob 3 [.ref 15, .int 0])) ((ws_comm (Nat.ne_of_beq_eq_false rfl)).trans (congrArg (fun z => wset z 13 (ia 64 (fun _ => 0))) ((ws_comm (Nat.ne_of_beq_eq_false rfl)).trans (congrArg (fun z => wset z 12 (ob 3 [.ref 13, .int 0])) ((ws_comm (Nat.ne_of_beq_eq_false rfl)).trans (congrArg (fun z => wset z 11 (ia 64 (fun _ => 0))) ((ws_comm (Nat.ne_of_beq_eq_false rfl)).trans (congrArg (fun z => wset z 10 (ob 3 [.ref 11, .int 0])) ((ws_comm (Nat.ne_of_beq_eq_false rfl)).trans (congrArg (fun z => wset z 9 (ia 32 (fun _ => 0))) ((ws_comm (Nat.ne_of_beq_eq_false rfl)).trans (congrArg (fun z => wset z 8 (ob 3 [.ref 9, .int 0])) ((ws_comm (Nat.ne_of_beq_eq_false rfl)).trans (congrArg (fun z => wset z 7 (ia 32 (fun _ => 0))) ((ws_comm (Nat.ne_of_beq_eq_false rfl)).trans (congrArg (fun z => wset z 6 (ob 3 [.ref 7, .int 0])) ws_same)))))))))))))))))))))))))))))))))))))))))))))))))))))))))) ?_
  refine b_aload_n C dX1_init_190 rfl ?_
  refine b_get C dX1_init_191 fgRX1_30 (Nat.le_of_ble_eq_true rfl) (ws_ne (Nat.ne_of_beq_eq_false rfl) (ws_ne (Nat.ne_of_beq_eq_false rfl) (ws_ne (Nat.ne_of_beq_eq_false rfl) (ws_ne (Nat.ne_of_beq_eq_false rfl) (ws_ne (Nat.ne_of_beq_eq_false rfl) (ws_ne (Nat.ne_of_beq_eq_false rfl) (ws_ne (Nat.ne_of_beq_eq_false rfl) (ws_ne (Nat.ne_of_beq_eq_false rfl) (ws_ne (Nat.ne_of_beq_eq_false rfl) (ws_ne (Nat.ne_of_beq_eq_false rfl) (ws_ne (Nat.ne_of_beq_eq_false rfl) (ws_ne (Nat.ne_of_beq_eq_false rfl) (ws_ne (Nat.ne_of_beq_eq_false rfl) (ws_ne (Nat.ne_of_beq_eq_false rfl) (ws_ne (Nat.ne_of_beq_eq_false rfl) (ws_ne (Nat.ne_of_beq_eq_false rfl) (ws_ne (Nat.ne_of_beq_eq_false rfl) (ws_ne (Nat.ne_of_beq_eq_false rfl) (ws_ne (Nat.ne_of_beq_eq_false rfl) (ws_ne (Nat.ne_of_beq_eq_false rfl) (ws_ne (Nat.ne_of_beq_eq_false rfl) (ws_ne (Nat.ne_of_beq_eq_false rfl) (ws_ne (Nat.ne_of_beq_eq_false rfl) (ws_ne (Nat.ne_of_beq_eq_false rfl) (ws_ne (Nat.ne_of_beq_eq_false rfl) (ws_ne (Nat.ne_of_beq_eq_false rfl) (ws_ne (Nat.ne_of_beq_eq_false rfl) (ws_ne (Nat.ne_of_beq_eq_false rfl) (ws_ne (Nat.ne_of_beq_eq_false rfl) ws_eq))))))))))))))))))))))))))))) rfl ?_
  refine b_bipush C dX1_init_194 (v := 32) (by decide) ?_
  refine b_put C dX1_init_196 fpRX1_82 (Nat.le_of_ble_eq_true rfl) (ws_ne (Nat.ne_of_beq_eq_false rfl) (ws_ne (Nat.ne_of_beq_eq_false rfl) (ws_ne (Nat.ne_of_beq_eq_false rfl) (ws_ne (Nat.ne_of_beq_eq_false rfl) (ws_ne (Nat.ne_of_beq_eq_false rfl) (ws_ne (Nat.ne_of_beq_eq_false rfl) (ws_ne (Nat.ne_of_beq_eq_false rfl) (ws_ne (Nat.ne_of_beq_eq_false rfl) (ws_ne (Nat.ne_of_beq_eq_false rfl) (ws_ne (Nat.ne_of_beq_eq_false rfl) (ws_ne (Nat.ne_of_beq_eq_false rfl) (ws_ne (Nat.ne_of_beq_eq_false rfl) (ws_ne (Nat.ne_of_beq_eq_false rfl) (ws_ne (Nat.ne_of_beq_eq_false rfl) (ws_ne (Nat.ne_of_beq_eq_false rfl) (ws_ne (Nat.ne_of_beq_eq_false rfl) (ws_ne (Nat.ne_of_beq_eq_false rfl) (ws_ne (Nat.ne_of_beq_eq_false rfl) (ws_ne (Nat.ne_of_beq_eq_false rfl) (ws_ne (Nat.ne_of_beq_eq_false rfl) (ws_ne (Nat.ne_of_beq_eq_false rfl) (ws_ne (Nat.ne_of_beq_eq_false rfl) (ws_ne (Nat.ne_of_beq_eq_false rfl) (ws_ne (Nat.ne_of_beq_eq_false rfl) (ws_ne (Nat.ne_of_beq_eq_false rfl) (ws_ne (Nat.ne_of_beq_eq_false rfl) (ws_ne (Nat.ne_of_beq_eq_false rfl) (ws_ne (Nat.ne_of_beq_eq_false rfl) ws_eq)))))))))))))))))))))))))))) rfl rfl (Nat.le_of_ble_eq_true rfl) (fs' := [.ref 7, .int 32]) rfl ?_
  refine b_eq rfl rfl ((ws_comm (Nat.ne_of_beq_eq_false rfl)).trans (congrArg (fun z => wset z 34 (ia 32 (fun _ => 0))) ((ws_comm (Nat.ne_of_beq_eq_false rfl)).trans (congrArg (fun z => wset z 33 (ob 3 [.ref 34, .int 0])) ((ws_comm (Nat.ne_of_beq_eq_false rfl)).trans (congrArg (fun z => wset z 32 (ia 32 (fun _ => 0))) ((ws_comm (Nat.ne_of_beq_eq_false rfl)).trans (congrArg (fun z => wset z 31 (ob 3 [.ref 32, .int 0])) ((ws_comm (Nat.ne_of_beq_eq_false rfl)).trans (congrArg (fun z => wset z 30 (ia 16 (fun _ => 0))) ((ws_comm (Nat.ne_of_beq_eq_false rfl)).trans (congrArg (fun z => wset z 29 (ob 3 [.ref 30, .int 0])) ((ws_comm (Nat.ne_of_beq_eq_false rfl)).trans (congrArg (fun z => wset z 28 (ia 136 (fun _ => 0))) ((ws_comm (Nat.ne_of_beq_eq_false rfl)).trans (congrArg (fun z => wset z 27 (ob 3 [.ref 28, .int 0])) ((ws_comm (Nat.ne_of_beq_eq_false rfl)).trans (congrArg (fun z => wset z 26 (ia 16 (fun _ => 0))) ((ws_comm (Nat.ne_of_beq_eq_false rfl)).trans (congrArg (fun z => wset z 25 (ia 16 (fun _ => 0))) ((ws_comm (Nat.ne_of_beq_eq_false rfl)).trans (congrArg (fun z => wset z 24 (ia 176 (fun _ => 0))) ((ws_comm (Nat.ne_of_beq_eq_false rfl)).trans (congrArg (fun z => wset z 23 (ia 256 (nf (sbI 256)))) ((ws_comm (Nat.ne_of_beq_eq_false rfl)).trans (congrArg (fun z => wset z 22 (ob 0 [.ref 23, .ref 24, .ref 25, .ref 26])) ((ws_comm (Nat.ne_of_beq_eq_false rfl)).trans (congrArg (fun z => wset z 21 (ia 256 (fun _ => 0))) ((ws_comm (Nat.ne_of_beq_eq_false rfl)).trans (congrArg (fun z => wset z 20 (ob 4 [.ref 21])) ((ws_comm (Nat.ne_of_beq_eq_false rfl)).trans (congrArg (fun z => wset z 19 (ia 16 (fun _ => 0))) ((ws_comm (Nat.ne_of_beq_eq_false rfl)).trans (congrArg (fun z => wset z 18 (ob 2 [.ref 19, .int 0, .int 0, .int 0, .int 0])) ((ws_comm (Nat.ne_of_beq_eq_false rfl)).trans (congrArg (fun z => wset z 17 (ia 16 (fun _ => 0))) ((ws_comm (Nat.ne_of_beq_eq_false rfl)).trans (congrArg (fun z => wset z 16 (ob 3 [.ref 17, .int 0])) ((ws_comm (Nat.ne_of_beq_eq_false rfl)).trans (congrArg (fun z => wset z 15 (ia 64 (fun _ => 0))) ((ws_comm (Nat.ne_of_beq_eq_false rfl)).trans (congrArg (fun z => wset z 14 (ob 3 [.ref 15, .int 0])) ((ws_comm (Nat.ne_of_beq_eq_false rfl)).trans (congrArg (fun z => wset z 13 (ia 64 (fun _ => 0))) ((ws_comm (Nat.ne_of_beq_eq_false rfl)).trans (congrArg (fun z => wset z 12 (ob 3 [.ref 13, .int 0])) ((ws_comm (Nat.ne_of_beq_eq_false rfl)).trans (congrArg (fun z => wset z 11 (ia 64 (fun _ => 0))) ((ws_comm (Nat.ne_of_beq_eq_false rfl)).trans (congrArg (fun z => wset z 10 (ob 3 [.ref 11, .int 0])) ((ws_comm (Nat.ne_of_beq_eq_false rfl)).trans (congrArg (fun z => wset z 9 (ia 32 (fun _ => 0))) ((ws_comm (Nat.ne_of_beq_eq_false rfl)).trans (congrArg (fun z => wset z 8 (ob 3 [.ref 9, .int 0])) ((ws_comm (Nat.ne_of_beq_eq_false rfl)).trans (congrArg (fun z => wset z 7 (ia 32 (fun _ => 0))) ws_same)))))))))))))))))))))))))))))))))))))))))))))))))))))))) ?_
  refine b_aload_n C dX1_init_199 rfl ?_
  refine b_get C dX1_init_200 fgRX1_34 (Nat.le_of_ble_eq_true rfl) (ws_ne (Nat.ne_of_beq_eq_false rfl) (ws_ne (Nat.ne_of_beq_eq_false rfl) (ws_ne (Nat.ne_of_beq_eq_false rfl) (ws_ne (Nat.ne_of_beq_eq_false rfl) (ws_ne (Nat.ne_of_beq_eq_false rfl) (ws_ne (Nat.ne_of_beq_eq_false rfl) (ws_ne (Nat.ne_of_beq_eq_false rfl) (ws_ne (Nat.ne_of_beq_eq_false rfl) (ws_ne (Nat.ne_of_beq_eq_false rfl) (ws_ne (Nat.ne_of_beq_eq_false rfl) (ws_ne (Nat.ne_of_beq_eq_false rfl) (ws_ne (Nat.ne_of_beq_eq_false rfl) (ws_ne (Nat.ne_of_beq_eq_false rfl) (ws_ne (Nat.ne_of_beq_eq_false rfl) (ws_ne (Nat.ne_of_beq_eq_false rfl) (ws_ne (Nat.ne_of_beq_eq_false rfl) (ws_ne (Nat.ne_of_beq_eq_false rfl) (ws_ne (Nat.ne_of_beq_eq_false rfl) (ws_ne (Nat.ne_of_beq_eq_false rfl) (ws_ne (Nat.ne_of_beq_eq_false rfl) (ws_ne (Nat.ne_of_beq_eq_false rfl) (ws_ne (Nat.ne_of_beq_eq_false rfl) (ws_ne (Nat.ne_of_beq_eq_false rfl) (ws_ne (Nat.ne_of_beq_eq_false rfl) (ws_ne (Nat.ne_of_beq_eq_false rfl) (ws_ne (Nat.ne_of_beq_eq_false rfl) (ws_ne (Nat.ne_of_beq_eq_false rfl) (ws_ne (Nat.ne_of_beq_eq_false rfl) (ws_ne (Nat.ne_of_beq_eq_false rfl) ws_eq))))))))))))))))))))))))))))) rfl ?_
  refine b_bipush C dX1_init_203 (v := 32) (by decide) ?_
  refine b_put C dX1_init_205 fpRX1_82 (Nat.le_of_ble_eq_true rfl) (ws_ne (Nat.ne_of_beq_eq_false rfl) (ws_ne (Nat.ne_of_beq_eq_false rfl) (ws_ne (Nat.ne_of_beq_eq_false rfl) (ws_ne (Nat.ne_of_beq_eq_false rfl) (ws_ne (Nat.ne_of_beq_eq_false rfl) (ws_ne (Nat.ne_of_beq_eq_false rfl) (ws_ne (Nat.ne_of_beq_eq_false rfl) (ws_ne (Nat.ne_of_beq_eq_false rfl) (ws_ne (Nat.ne_of_beq_eq_false rfl) (ws_ne (Nat.ne_of_beq_eq_false rfl) (ws_ne (Nat.ne_of_beq_eq_false rfl) (ws_ne (Nat.ne_of_beq_eq_false rfl) (ws_ne (Nat.ne_of_beq_eq_false rfl) (ws_ne (Nat.ne_of_beq_eq_false rfl) (ws_ne (Nat.ne_of_beq_eq_false rfl) (ws_ne (Nat.ne_of_beq_eq_false rfl) (ws_ne (Nat.ne_of_beq_eq_false rfl) (ws_ne (Nat.ne_of_beq_eq_false rfl) (ws_ne (Nat.ne_of_beq_eq_false rfl) (ws_ne (Nat.ne_of_beq_eq_false rfl) (ws_ne (Nat.ne_of_beq_eq_false rfl) (ws_ne (Nat.ne_of_beq_eq_false rfl) (ws_ne (Nat.ne_of_beq_eq_false rfl) (ws_ne (Nat.ne_of_beq_eq_false rfl) (ws_ne (Nat.ne_of_beq_eq_false rfl) (ws_ne (Nat.ne_of_beq_eq_false rfl) ws_eq)))))))))))))))))))))))))) rfl rfl (Nat.le_of_ble_eq_true rfl) (fs' := [.ref 9, .int 32]) rfl ?_
  refine b_eq rfl rfl ((ws_comm (Nat.ne_of_beq_eq_false rfl)).trans (congrArg (fun z => wset z 34 (ia 32 (fun _ => 0))) ((ws_comm (Nat.ne_of_beq_eq_false rfl)).trans (congrArg (fun z => wset z 33 (ob 3 [.ref 34, .int 0])) ((ws_comm (Nat.ne_of_beq_eq_false rfl)).trans (congrArg (fun z => wset z 32 (ia 32 (fun _ => 0))) ((ws_comm (Nat.ne_of_beq_eq_false rfl)).trans (congrArg (fun z => wset z 31 (ob 3 [.ref 32, .int 0])) ((ws_comm (Nat.ne_of_beq_eq_false rfl)).trans (congrArg (fun z => wset z 30 (ia 16 (fun _ => 0))) ((ws_comm (Nat.ne_of_beq_eq_false rfl)).trans (congrArg (fun z => wset z 29 (ob 3 [.ref 30, .int 0])) ((ws_comm (Nat.ne_of_beq_eq_false rfl)).trans (congrArg (fun z => wset z 28 (ia 136 (fun _ => 0))) ((ws_comm (Nat.ne_of_beq_eq_false rfl)).trans (congrArg (fun z => wset z 27 (ob 3 [.ref 28, .int 0])) ((ws_comm (Nat.ne_of_beq_eq_false rfl)).trans (congrArg (fun z => wset z 26 (ia 16 (fun _ => 0))) ((ws_comm (Nat.ne_of_beq_eq_false rfl)).trans (congrArg (fun z => wset z 25 (ia 16 (fun _ => 0))) ((ws_comm (Nat.ne_of_beq_eq_false rfl)).trans (congrArg (fun z => wset z 24 (ia 176 (fun _ => 0))) ((ws_comm (Nat.ne_of_beq_eq_false rfl)).trans (congrArg (fun z => wset z 23 (ia 256 (nf (sbI 256)))) ((ws_comm (Nat.ne_of_beq_eq_false rfl)).trans (congrArg (fun z => wset z 22 (ob 0 [.ref 23, .ref 24, .ref 25, .ref 26])) ((ws_comm (Nat.ne_of_beq_eq_false rfl)).trans (congrArg (fun z => wset z 21 (ia 256 (fun _ => 0))) ((ws_comm (Nat.ne_of_beq_eq_false rfl)).trans (congrArg (fun z => wset z 20 (ob 4 [.ref 21])) ((ws_comm (Nat.ne_of_beq_eq_false rfl)).trans (congrArg (fun z => wset z 19 (ia 16 (fun _ => 0))) ((ws_comm (Nat.ne_of_beq_eq_false rfl)).trans (congrArg (fun z => wset z 18 (ob 2 [.ref 19, .int 0, .int 0, .int 0, .int 0])) ((ws_comm (Nat.ne_of_beq_eq_false rfl)).trans (congrArg (fun z => wset z 17 (ia 16 (fun _ => 0))) ((ws_comm (Nat.ne_of_beq_eq_false rfl)).trans (congrArg (fun z => wset z 16 (ob 3 [.ref 17, .int 0])) ((ws_comm (Nat.ne_of_beq_eq_false rfl)).trans (congrArg (fun z => wset z 15 (ia 64 (fun _ => 0))) ((ws_comm (Nat.ne_of_beq_eq_false rfl)).trans (congrArg (fun z => wset z 14 (ob 3 [.ref 15, .int 0])) ((ws_comm (Nat.ne_of_beq_eq_false rfl)).trans (congrArg (fun z => wset z 13 (ia 64 (fun _ => 0))) ((ws_comm (Nat.ne_of_beq_eq_false rfl)).trans (congrArg (fun z => wset z 12 (ob 3 [.ref 13, .int 0])) ((ws_comm (Nat.ne_of_beq_eq_false rfl)).trans (congrArg (fun z => wset z 11 (ia 64 (fun _ => 0))) ((ws_comm (Nat.ne_of_beq_eq_false rfl)).trans (congrArg (fun z => wset z 10 (ob 3 [.ref 11, .int 0])) ((ws_comm (Nat.ne_of_beq_eq_false rfl)).trans (congrArg (fun z => wset z 9 (ia 32 (fun _ => 0))) ws_same)))))))))))))))))))))))))))))))))))))))))))))))))))) ?_
  exact b_return C T_ rfl rfl rfl rfl rfl dX1_init_208
abbrev mX5_init : Mi := (yX5_init, cX5_init, 1, none, 0, { frames := 3, cells := 34, slots := 34043, locals := 53 })
theorem okX5_init : MiOkN mX5_init := ⟨(show plainName yX5_init.cls = true from by decide +kernel), (show Cond.code yX5_init cX5_init 1 none ∈ tb_ from mem_tb 71 (by decide +kernel) rfl), (show Cond.initialized yX5_init.cls ∈ tb_ from mem_tb 52 (by decide +kernel) rfl), (show yX5_init.cls ≠ "java/lang/invoke/MethodHandle" ∧ yX5_init.cls ≠ "java/lang/invoke/VarHandle" ∧ (parseMethodDescriptor yX5_init.desc).map (fun d => d.parameters.length) = some 0 from by decide +kernel), rfl, (show Cond.instanceMethod yX5_init ∈ tb_ from mem_tb 70 (by decide +kernel) rfl), rfl⟩
set_option maxHeartbeats 4000000 in
set_option maxRecDepth 100000 in
theorem cnX5_init {w : Wo} (w_0 : w 0 = ob 5 [.null, .null, .null]) : Cns mX5_init [.ref 0] w 1 (wset (wset (wset (wset (wset (wset (wset (wset (wset (wset (wset (wset (wset (wset (wset (wset (wset (wset (wset (wset (wset (wset (wset (wset (wset (wset (wset (wset (wset (wset (wset (wset (wset (wset (wset w 1 (ob 3 [.ref 2, .int 0])) 2 (ia 16384 (fun _ => 0))) 0 (ob 5 [.ref 1, .ref 3, .ref 5])) 3 (ob 3 [.ref 4, .int 0])) 4 (ia 16384 (fun _ => 0))) 5 (ob 1 [.int 3, .int 16, .int (-4), .int 0, .ref 6, .ref 8, .ref 10, .ref 12, .ref 14, .ref 16, .ref 18, .ref 20, .ref 22, .ref 27, .ref 29, .ref 31, .ref 33])) 6 (ob 3 [.ref 7, .int 32])) 7 (ia 32 (fun _ => 0))) 8 (ob 3 [.ref 9, .int 32])) 9 (ia 32 (fun _ => 0))) 10 (ob 3 [.ref 11, .int 0])) 11 (ia 64 (fun _ => 0))) 12 (ob 3 [.ref 13, .int 0])) 13 (ia 64 (fun _ => 0))) 14 (ob 3 [.ref 15, .int 0])) 15 (ia 64 (fun _ => 0))) 16 (ob 3 [.ref 17, .int 0])) 17 (ia 16 (fun _ => 0))) 18 (ob 2 [.ref 19, .int 0, .int 0, .int 0, .int 0])) 19 (ia 16 (fun _ => 0))) 20 (ob 4 [.ref 21])) 21 (ia 256 (fun _ => 0))) 22 (ob 0 [.ref 23, .ref 24, .ref 25, .ref 26])) 23 (ia 256 (nf (sbI 256)))) 24 (ia 176 (fun _ => 0))) 25 (ia 16 (fun _ => 0))) 26 (ia 16 (fun _ => 0))) 27 (ob 3 [.ref 28, .int 0])) 28 (ia 136 (fun _ => 0))) 29 (ob 3 [.ref 30, .int 0])) 30 (ia 16 (fun _ => 0))) 31 (ob 3 [.ref 32, .int 0])) 32 (ia 32 (fun _ => 0))) 33 (ob 3 [.ref 34, .int 0])) 34 (ia 32 (fun _ => 0))) 35 := by
  refine Cns_intro okX5_init (Nat.le_of_ble_eq_true rfl) rfl (Nat.le_of_ble_eq_true rfl) (L := [some (.ref 0)]) rfl (fun g ct C G IN T_ => ?_)
  refine b_aload_n C dX5_init_0 rfl ?_
  refine b_objinit C dX5_init_1 miRX5_1 oi_inst oi_code (Nat.le_of_ble_eq_true rfl) (Nat.le_of_ble_eq_true rfl) ?_
  refine b_aload_n C dX5_init_4 rfl ?_
  refine b_new C G dX5_init_5 nwRX5_7 rfl (Nat.le_of_ble_eq_true rfl) (Nat.le_of_ble_eq_true rfl) (Nat.le_of_ble_eq_true rfl) (N1 := 2) (k1 := 1) (n1 := 2) rfl rfl rfl ?_
  refine b_dup C dX5_init_8 rfl ?_
  refine b_sipush C dX5_init_9 (v := 16384) (by decide) ?_
  refine b_init C G (As := [.int 16384]) (rest := [.ref 1, .ref 0]) dX5_init_12 (cRow 16384 (Nat.le_of_ble_eq_true rfl) (a := 1) (N := 2) (Nat.le_of_ble_eq_true rfl) (Nat.le_of_ble_eq_true rfl) ws_eq) (okRow 16384) (Or.inl miRX5_11) ⟨by decide, by decide⟩ rfl rfl (Nat.le_of_ble_eq_true rfl) (Nat.le_of_ble_eq_true rfl) rfl rfl (Nat.le_of_ble_eq_true rfl) (Nat.le_of_ble_eq_true rfl) (Nat.le_of_ble_eq_true rfl) (k1 := 2) (n1 := 16386) rfl rfl ?_
  refine b_eq rfl rfl ((ws_comm (Nat.ne_of_beq_eq_false rfl)).trans (congrArg (fun z => wset z 2 (ia 16384 (fun _ => 0))) ws_same)) ?_
  refine b_putR C IN dX5_init_15 frRX5_14 (Nat.le_of_ble_eq_true rfl) (ws_ne (Nat.ne_of_beq_eq_false rfl) (ws_ne (Nat.ne_of_beq_eq_false rfl) w_0)) (Nat.le_of_ble_eq_true rfl) (fs' := [.ref 1, .null, .null]) rfl ?_
  refine b_aload_n C dX5_init_18 rfl ?_
  refine b_new C G dX5_init_19 nwRX5_7 rfl (Nat.le_of_ble_eq_true rfl) (Nat.le_of_ble_eq_true rfl) (Nat.le_of_ble_eq_true rfl) (N1 := 4) (k1 := 3) (n1 := 16388) rfl rfl rfl ?_
  refine b_dup C dX5_init_22 rfl ?_
  refine b_sipush C dX5_init_23 (v := 16384) (by decide) ?_
  refine b_init C G (As := [.int 16384]) (rest := [.ref 3, .ref 0]) dX5_init_26 (cRow 16384 (Nat.le_of_ble_eq_true rfl) (a := 3) (N := 4) (Nat.le_of_ble_eq_true rfl) (Nat.le_of_ble_eq_true rfl) ws_eq) (okRow 16384) (Or.inl miRX5_11) ⟨by decide, by decide⟩ rfl rfl (Nat.le_of_ble_eq_true rfl) (Nat.le_of_ble_eq_true rfl) rfl rfl (Nat.le_of_ble_eq_true rfl) (Nat.le_of_ble_eq_true rfl) (Nat.le_of_ble_eq_true rfl) (k1 := 4) (n1 := 32772) rfl rfl ?_
  refine b_eq rfl rfl ((ws_comm (Nat.ne_of_beq_eq_false rfl)).trans (congrArg (fun z => wset z 4 (ia 16384 (fun _ => 0))) ws_same)) ?_
  refine b_putR C IN dX5_init_29 frRX5_18 (Nat.le_of_ble_eq_true rfl) (ws_ne (Nat.ne_of_beq_eq_false rfl) (ws_ne (Nat.ne_of_beq_eq_false rfl) ws_eq)) (Nat.le_of_ble_eq_true rfl) (fs' := [.ref 1, .ref 3, .null]) rfl ?_
  refine b_eq rfl rfl ((ws_comm (Nat.ne_of_beq_eq_false rfl)).trans (congrArg (fun z => wset z 4 (ia 16384 (fun _ => 0))) ((ws_comm (Nat.ne_of_beq_eq_false rfl)).trans (congrArg (fun z => wset z 3 (ob 3 [.ref 4, .int 0])) ws_same)))) ?_
  refine b_aload_n C dX5_init_32 rfl ?_
  refine b_new C G dX5_init_33 nwRX5_21 rfl (Nat.le_of_ble_eq_true rfl) (Nat.le_of_ble_eq_true rfl) (Nat.le_of_ble_eq_true rfl) (N1 := 6) (k1 := 5) (n1 := 32789) rfl rfl rfl ?_
  refine b_dup C dX5_init_36 rfl ?_
  refine b_init C G (As := []) (rest := [.ref 5, .ref 0]) dX5_init_37 (cnX1_init ws_eq) okX1_init (Or.inl miRX5_23) ⟨by decide, by decide⟩ rfl rfl (Nat.le_of_ble_eq_true rfl) (Nat.le_of_ble_eq_true rfl) rfl rfl (Nat.le_of_ble_eq_true rfl) (Nat.le_of_ble_eq_true rfl) (Nat.le_of_ble_eq_true rfl) (k1 := 34) (n1 := 34043) rfl rfl ?_
  refine b_eq rfl rfl (congrArg (fun z => wset (wset (wset (wset (wset (wset (wset (wset (wset (wset (wset (wset (wset (wset (wset (wset (wset (wset (wset (wset (wset (wset (wset (wset (wset (wset (wset (wset (wset (z) 6 (ob 3 [.ref 7, .int 32])) 7 (ia 32 (fun _ => 0))) 8 (ob 3 [.ref 9, .int 32])) 9 (ia 32 (fun _ => 0))) 10 (ob 3 [.ref 11, .int 0])) 11 (ia 64 (fun _ => 0))) 12 (ob 3 [.ref 13, .int 0])) 13 (ia 64 (fun _ => 0))) 14 (ob 3 [.ref 15, .int 0])) 15 (ia 64 (fun _ => 0))) 16 (ob 3 [.ref 17, .int 0])) 17 (ia 16 (fun _ => 0))) 18 (ob 2 [.ref 19, .int 0, .int 0, .int 0, .int 0])) 19 (ia 16 (fun _ => 0))) 20 (ob 4 [.ref 21])) 21 (ia 256 (fun _ => 0))) 22 (ob 0 [.ref 23, .ref 24, .ref 25, .ref 26])) 23 (ia 256 (nf (sbI 256)))) 24 (ia 176 (fun _ => 0))) 25 (ia 16 (fun _ => 0))) 26 (ia 16 (fun _ => 0))) 27 (ob 3 [.ref 28, .int 0])) 28 (ia 136 (fun _ => 0))) 29 (ob 3 [.ref 30, .int 0])) 30 (ia 16 (fun _ => 0))) 31 (ob 3 [.ref 32, .int 0])) 32 (ia 32 (fun _ => 0))) 33 (ob 3 [.ref 34, .int 0])) 34 (ia 32 (fun _ => 0))) ws_same) ?_
  refine b_putR C IN dX5_init_40 frRX5_24 (Nat.le_of_ble_eq_true rfl) (ws_ne (Nat.ne_of_beq_eq_false rfl) (ws_ne (Nat.ne_of_beq_eq_false rfl) (ws_ne (Nat.ne_of_beq_eq_false rfl) (ws_ne (Nat.ne_of_beq_eq_false rfl) (ws_ne (Nat.ne_of_beq_eq_false rfl) (ws_ne (Nat.ne_of_beq_eq_false rfl) (ws_ne (Nat.ne_of_beq_eq_false rfl) (ws_ne (Nat.ne_of_beq_eq_false rfl) (ws_ne (Nat.ne_of_beq_eq_false rfl) (ws_ne (Nat.ne_of_beq_eq_false rfl) (ws_ne (Nat.ne_of_beq_eq_false rfl) (ws_ne (Nat.ne_of_beq_eq_false rfl) (ws_ne (Nat.ne_of_beq_eq_false rfl) (ws_ne (Nat.ne_of_beq_eq_false rfl) (ws_ne (Nat.ne_of_beq_eq_false rfl) (ws_ne (Nat.ne_of_beq_eq_false rfl) (ws_ne (Nat.ne_of_beq_eq_false rfl) (ws_ne (Nat.ne_of_beq_eq_false rfl) (ws_ne (Nat.ne_of_beq_eq_false rfl) (ws_ne (Nat.ne_of_beq_eq_false rfl) (ws_ne (Nat.ne_of_beq_eq_false rfl) (ws_ne (Nat.ne_of_beq_eq_false rfl) (ws_ne (Nat.ne_of_beq_eq_false rfl) (ws_ne (Nat.ne_of_beq_eq_false rfl) (ws_ne (Nat.ne_of_beq_eq_false rfl) (ws_ne (Nat.ne_of_beq_eq_false rfl) (ws_ne (Nat.ne_of_beq_eq_false rfl) (ws_ne (Nat.ne_of_beq_eq_false rfl) (ws_ne (Nat.ne_of_beq_eq_false rfl) (ws_ne (Nat.ne_of_beq_eq_false rfl) (ws_ne (Nat.ne_of_beq_eq_false rfl) (ws_ne (Nat.ne_of_beq_eq_false rfl) ws_eq)))))))))))))))))))))))))))))))) (Nat.le_of_ble_eq_true rfl) (fs' := [.ref 1, .ref 3, .ref 5]) rfl ?_
  refine b_eq rfl rfl ((ws_comm (Nat.ne_of_beq_eq_false rfl)).trans (congrArg (fun z => wset z 34 (ia 32 (fun _ => 0))) ((ws_comm (Nat.ne_of_beq_eq_false rfl)).trans (congrArg (fun z => wset z 33 (ob 3 [.ref 34, .int 0])) ((ws_comm (Nat.ne_of_beq_eq_false rfl)).trans (congrArg (fun z => wset z 32 (ia 32 (fun _ => 0))) ((ws_comm (Nat.ne_of_beq_eq_false rfl)).trans (congrArg (fun z => wset z 31 (ob 3 [.ref 32, .int 0])) ((ws_comm (Nat.ne_of_beq_eq_false rfl)).trans (congrArg (fun z => wset z 30 (ia 16 (fun _ => 0))) ((ws_comm (Nat.ne_of_beq_eq_false rfl)).trans (congrArg (fun z => wset z 29 (ob 3 [.ref 30, .int 0])) ((ws_comm (Nat.ne_of_beq_eq_false rfl)).trans (congrArg (fun z => wset z 28 (ia 136 (fun _ => 0))) ((ws_comm (Nat.ne_of_beq_eq_false rfl)).trans (congrArg (fun z => wset z 27 (ob 3 [.ref 28, .int 0])) ((ws_comm (Nat.ne_of_beq_eq_false rfl)).trans (congrArg (fun z => wset z 26 (ia 16 (fun _ => 0))) ((ws_comm (Nat.ne_of_beq_eq_false rfl)).trans (congrArg (fun z => wset z 25 (ia 16 (fun _ => 0))) ((ws_comm (Nat.ne_of_beq_eq_false rfl)).trans (congrArg (fun z => wset z 24 (ia 176 (fun _ => 0))) ((ws_comm (Nat.ne_of_beq_eq_false rfl)).trans (congrArg (fun z => wset z 23 (ia 256 (nf (sbI 256)))) ((ws_comm (Nat.ne_of_beq_eq_false rfl)).trans (congrArg (fun z => wset z 22 (ob 0 [.ref 23, .ref 24, .ref 25, .ref 26])) ((ws_comm (Nat.ne_of_beq_eq_false rfl)).trans (congrArg (fun z => wset z 21 (ia 256 (fun _ => 0))) ((ws_comm (Nat.ne_of_beq_eq_false rfl)).trans (congrArg (fun z => wset z 20 (ob 4 [.ref 21])) ((ws_comm (Nat.ne_of_beq_eq_false rfl)).trans (congrArg (fun z => wset z 19 (ia 16 (fun _ => 0))) ((ws_comm (Nat.ne_of_beq_eq_false rfl)).trans (congrArg (fun z => wset z 18 (ob 2 [.ref 19, .int 0, .int 0, .int 0, .int 0])) ((ws_comm (Nat.ne_of_beq_eq_false rfl)).trans (congrArg (fun z => wset z 17 (ia 16 (fun _ => 0))) ((ws_comm (Nat.ne_of_beq_eq_false rfl)).trans (congrArg (fun z => wset z 16 (ob 3 [.ref 17, .int 0])) ((ws_comm (Nat.ne_of_beq_eq_false rfl)).trans (congrArg (fun z => wset z 15 (ia 64 (fun _ => 0))) ((ws_comm (Nat.ne_of_beq_eq_false rfl)).trans (congrArg (fun z => wset z 14 (ob 3 [.ref 15, .int 0])) ((ws_comm (Nat.ne_of_beq_eq_false rfl)).trans (congrArg (fun z => wset z 13 (ia 64 (fun _ => 0))) ((ws_comm (Nat.ne_of_beq_eq_false rfl)).trans (congrArg (fun z => wset z 12 (ob 3 [.ref 13, .int 0])) ((ws_comm (Nat.ne_of_beq_eq_false rfl)).trans (congrArg (fun z => wset z 11 (ia 64 (fun _ => 0))) ((ws_comm (Nat.ne_of_beq_eq_false rfl)).trans (congrArg (fun z => wset z 10 (ob 3 [.ref 11, .int 0])) ((ws_comm (Nat.ne_of_beq_eq_false rfl)).trans (congrArg (fun z => wset z 9 (ia 32 (fun _ => 0))) ((ws_comm (Nat.ne_of_beq_eq_false rfl)).trans (congrArg (fun z => wset z 8 (ob 3 [.ref 9, .int 32])) ((ws_comm (Nat.ne_of_beq_eq_false rfl)).trans (congrArg (fun z => wset z 7 (ia 32 (fun _ => 0))) ((ws_comm (Nat.ne_of_beq_eq_false rfl)).trans (congrArg (fun z => wset z 6 (ob 3 [.ref 7, .int 32])) ((ws_comm (Nat.ne_of_beq_eq_false rfl)).trans (congrArg (fun z => wset z 5 (ob 1 [.int 3, .int 16, .int (-4), .int 0, .ref 6, .ref 8, .ref 10, .ref 12, .ref 14, .ref 16, .ref 18, .ref 20, .ref 22, .ref 27, .ref 29, .ref 31, .ref 33])) ((ws_comm (Nat.ne_of_beq_eq_false rfl)).trans (congrArg (fun z => wset z 4 (ia 16384 (fun _ => 0))) ((ws_comm (Nat.ne_of_beq_eq_false rfl)).trans (congrArg (fun z => wset z 3 (ob 3 [.ref 4, .int 0])) ws_same)))))))))))))))))))))))))))))))))))))))))))))))))))))))))))))))) ?_
  exact b_return C T_ rfl rfl rfl rfl rfl dX5_init_43
abbrev mX6_init : Mi := (yX6_init, cX6_init, 1, none, 0, { frames := 1, cells := 23, slots := 50740, locals := 12 })
set_option maxRecDepth 100000 in
theorem okX6_init : MiOkN mX6_init := ⟨(show plainName yX6_init.cls = true from by decide +kernel), (show Cond.code yX6_init cX6_init 1 none ∈ tb_ from mem_tb 647 rfl rfl), (show Cond.initialized yX6_init.cls ∈ tb_ from mem_tb 58 (by decide +kernel) rfl), (show yX6_init.cls ≠ "java/lang/invoke/MethodHandle" ∧ yX6_init.cls ≠ "java/lang/invoke/VarHandle" ∧ (parseMethodDescriptor yX6_init.desc).map (fun d => d.parameters.length) = some 0 from by decide +kernel), rfl, (show Cond.instanceMethod yX6_init ∈ tb_ from mem_tb 646 (by decide +kernel) rfl), rfl⟩
def fsn0 : Nat → Int32 := upd (upd (upd (upd (upd (upd (upd (upd (upd (upd (upd (upd (upd (upd (upd (upd (upd (upd (upd (upd (upd (upd (upd (upd (upd (upd (upd (upd (upd (upd (upd (upd (upd (upd (upd (upd (upd (upd (upd (upd (upd (upd (upd (upd (upd (upd (upd (upd (upd (upd (upd (upd (upd (upd (upd (upd (upd (upd (upd (upd (upd (upd (upd (upd (fun _ => 0) 0 (-680876936)) 1 (-389564586)) 2 606105819) 3 (-1044525330)) 4 (-176418897)) 5 1200080426) 6 (-1473231341)) 7 (-45705983)) 8 1770035416) 9 (-1958414417)) 10 (-42063)) 11 (-1990404162)) 12 1804603682) 13 (-40341101)) 14 (-1502002290)) 15 1236535329) 16 (-165796510)) 17 (-1069501632)) 18 643717713) 19 (-373897302)) 20 (-701558691)) 21 38016083) 22 (-660478335)) 23 (-405537848)) 24 568446438) 25 (-1019803690)) 26 (-187363961)) 27 1163531501) 28 (-1444681467)) 29 (-51403784)) 30 1735328473) 31 (-1926607734)) 32 (-378558)) 33 (-2022574463)) 34 1839030562) 35 (-35309556)) 36 (-1530992060)) 37 1272893353) 38 (-155497632)) 39 (-1094730640)) 40 681279174) 41 (-358537222)) 42 (-722521979)) 43 76029189) 44 (-640364487)) 45 (-421815835)) 46 530742520) 47 (-995338651)) 48 (-198630844)) 49 1126891415) 50 (-1416354905)) 51 (-57434055)) 52 1700485571) 53 (-1894986606)) 54 (-1051523)) 55 (-2054922799)) 56 1873313359) 57 (-30611744)) 58 (-1560198380)) 59 1309151649) 60 (-145523070)) 61 (-1120210379)) 62 718787259) 63 (-343485551)
set_option maxHeartbeats 4000000 in
set_option maxRecDepth 100000 in
theorem fill_47 {g : Ge} {ct : Ct} {k n : Nat} {w : Wo} (C : Cx g mX6_init ct) (h : w 47 = ia 64 (fun _ => 0)) (kk : Bz g mX6_init ct 48 k n 494 [some (.ref 35)] [.ref 47, .ref 35] (wset w 47 (ia 64 fsn0))) : Bz g mX6_init ct 48 k n 116 [some (.ref 35)] [.ref 47, .ref 35] w := by
  refine b_dup C dX6_init_116 rfl ?_
  refine b_iconst C dX6_init_117 (v := 0) (by decide) ?_
  refine b_ldc C dX6_init_118 cnRX6_53 ?_
  refine b_iastN C dX6_init_120 (Nat.le_of_ble_eq_true rfl) h (j := 0) rfl (by omega) (by decide) ?_
  refine b_dup C dX6_init_121 rfl ?_
  refine b_iconst C dX6_init_122 (v := 1) (by decide) ?_
  refine b_ldc C dX6_init_123 cnRX6_54 ?_
  refine b_iastN C dX6_init_125 (Nat.le_of_ble_eq_true rfl) ws_eq (j := 1) rfl (by omega) (by decide) ?_
  refine b_eq rfl rfl ws_same ?_
  refine b_dup C dX6_init_126 rfl ?_
  refine b_iconst C dX6_init_127 (v := 2) (by decide) ?_
  refine b_ldc C dX6_init_128 cnRX6_55 ?_
  refine b_iastN C dX6_init_130 (Nat.le_of_ble_eq_true rfl) ws_eq (j := 2) rfl (by omega) (by decide) ?_
  refine b_eq rfl rfl ws_same ?_
  refine b_dup C dX6_init_131 rfl ?_
  refine b_iconst C dX6_init_132 (v := 3) (by decide) ?_
  refine b_ldc C dX6_init_133 cnRX6_56 ?_
  refine b_iastN C dX6_init_135 (Nat.le_of_ble_eq_true rfl) ws_eq (j := 3) rfl (by omega) (by decide) ?_
  refine b_eq rfl rfl ws_same ?_
  refine b_dup C dX6_init_136 rfl ?_
  refine b_iconst C dX6_init_137 (v := 4) (by decide) ?_
  refine b_ldc C dX6_init_138 cnRX6_57 ?_
  refine b_iastN C dX6_init_140 (Nat.le_of_ble_eq_true rfl) ws_eq (j := 4) rfl (by omega) (by decide) ?_
  refine b_eq rfl rfl ws_same ?_
  refine b_dup C dX6_init_141 rfl ?_
  refine b_iconst C dX6_init_142 (v := 5) (by decide) ?_
  refine b_ldc C dX6_init_143 cnRX6_58 ?_
  refine b_iastN C dX6_init_145 (Nat.le_of_ble_eq_true rfl) ws_eq (j := 5) rfl (by omega) (by decide) ?_
  refine b_eq rfl rfl ws_same ?_
  refine b_dup C dX6_init_146 rfl ?_
  refine b_bipush C dX6_init_147 (v := 6) (by decide) ?_
  refine b_ldc C dX6_init_149 cnRX6_59 ?_
  refine b_iastN C dX6_init_151 (Nat.le_of_ble_eq_true rfl) ws_eq (j := 6) rfl (by omega) (by decide) ?_
  refine b_eq rfl rfl ws_same ?_
  refine b_dup C dX6_init_152 rfl ?_
  refine b_bipush C dX6_init_153 (v := 7) (by decide) ?_
  refine b_ldc C dX6_init_155 cnRX6_60 ?_
  refine b_iastN C dX6_init_157 (Nat.le_of_ble_eq_true rfl) ws_eq (j := 7) rfl (by omega) (by decide) ?_
  refine b_eq rfl rfl ws_same ?_
  refine b_dup C dX6_init_158 rfl ?_
  refine b_bipush C dX6_init_159 (v := 8) (by decide) ?_
  refine b_ldc C dX6_init_161 cnRX6_61 ?_
  refine b_iastN C dX6_init_163 (Nat.le_of_ble_eq_true rfl) ws_eq (j := 8) rfl (by omega) (by decide) ?_
  refine b_eq rfl rfl ws_same ?_
  refine b_dup C dX6_init_164 rfl ?_
  refine b_bipush C dX6_init_165 (v := 9) (by decide) ?_
  refine b_ldc C dX6_init_167 cnRX6_62 ?_
  refine b_iastN C dX6_init_169 (Nat.le_of_ble_eq_true rfl) ws_eq (j := 9) rfl (by omega) (by decide) ?_
  refine b_eq rfl rfl ws_same ?_
  refine b_dup C dX6_init_170 rfl ?_
  refine b_bipush C dX6_init_171 (v := 10) (by decide) ?_
  refine b_ldc C dX6_init_173 cnRX6_63 ?_
  refine b_iastN C dX6_init_175 (Nat.le_of_ble_eq_true rfl) ws_eq (j := 10) rfl (by omega) (by decide) ?_
  refine b_eq rfl rfl ws_same ?_
  refine b_dup C dX6_init_176 rfl ?_
  refine b_bipush C dX6_init_177 (v := 11) (by decide) ?_
  refine b_ldc C dX6_init_179 cnRX6_64 ?_
  refine b_iastN C dX6_init_181 (Nat.le_of_ble_eq_true rfl) ws_eq (j := 11) rfl (by omega) (by decide) ?_
  refine b_eq rfl rfl ws_same ?_
  refine b_dup C dX6_init_182 rfl ?_
  refine b_bipush C dX6_init_183 (v := 12) (by decide) ?_
  refine b_ldc C dX6_init_185 cnRX6_65 ?_
  refine b_iastN C dX6_init_187 (Nat.le_of_ble_eq_true rfl) ws_eq (j := 12) rfl (by omega) (by decide) ?_
  refine b_eq rfl rfl ws_same ?_
  refine b_dup C dX6_init_188 rfl ?_
  refine b_bipush C dX6_init_189 (v := 13) (by decide) ?_
  refine b_ldc C dX6_init_191 cnRX6_66 ?_
  refine b_iastN C dX6_init_193 (Nat.le_of_ble_eq_true rfl) ws_eq (j := 13) rfl (by omega) (by decide) ?_
  refine b_eq rfl rfl ws_same ?_
  refine b_dup C dX6_init_194 rfl ?_
  refine b_bipush C dX6_init_195 (v := 14) (by decide) ?_
  refine b_ldc C dX6_init_197 cnRX6_67 ?_
  refine b_iastN C dX6_init_199 (Nat.le_of_ble_eq_true rfl) ws_eq (j := 14) rfl (by omega) (by decide) ?_
  refine b_eq rfl rfl ws_same ?_
  refine b_dup C dX6_init_200 rfl ?_
  refine b_bipush C dX6_init_201 (v := 15) (by decide) ?_
  refine b_ldc C dX6_init_203 cnRX6_68 ?_
  refine b_iastN C dX6_init_205 (Nat.le_of_ble_eq_true rfl) ws_eq (j := 15) rfl (by omega) (by decide) ?_
  refine b_eq rfl rfl ws_same ?_
  refine b_dup C dX6_init_206 rfl ?_
  refine b_bipush C dX6_init_207 (v := 16) (by decide) ?_
  refine b_ldc C dX6_init_209 cnRX6_69 ?_
  refine b_iastN C dX6_init_211 (Nat.le_of_ble_eq_true rfl) ws_eq (j := 16) rfl (by omega) (by decide) ?_
  refine b_eq rfl rfl ws_same ?_
  refine b_dup C dX6_init_212 rfl ?_
  refine b_bipush C dX6_init_213 (v := 17) (by decide) ?_
  refine b_ldc C dX6_init_215 cnRX6_70 ?_
  refine b_iastN C dX6_init_217 (Nat.le_of_ble_eq_true rfl) ws_eq (j := 17) rfl (by omega) (by decide) ?_
  refine b_eq rfl rfl ws_same ?_
  refine b_dup C dX6_init_218 rfl ?_
  refine b_bipush C dX6_init_219 (v := 18) (by decide) ?_
  refine b_ldc C dX6_init_221 cnRX6_71 ?_
  refine b_iastN C dX6_init_223 (Nat.le_of_ble_eq_true rfl) ws_eq (j := 18) rfl (by omega) (by decide) ?_
  refine b_eq rfl rfl ws_same ?_
  refine b_dup C dX6_init_224 rfl ?_
  refine b_bipush C dX6_init_225 (v := 19) (by decide) ?_
  refine b_ldc C dX6_init_227 cnRX6_72 ?_
  refine b_iastN C dX6_init_229 (Nat.le_of_ble_eq_true rfl) ws_eq (j := 19) rfl (by omega) (by decide) ?_
  refine b_eq rfl rfl ws_same ?_
  refine b_dup C dX6_init_230 rfl ?_
  refine b_bipush C dX6_init_231 (v := 20) (by decide) ?_
  refine b_ldc C dX6_init_233 cnRX6_73 ?_
  refine b_iastN C dX6_init_235 (Nat.le_of_ble_eq_true rfl) ws_eq (j := 20) rfl (by omega) (by decide) ?_
  refine b_eq rfl rfl ws_same ?_
  refine b_dup C dX6_init_236 rfl ?_
  refine b_bipush C dX6_init_237 (v := 21) (by decide) ?_
  refine b_ldc C dX6_init_239 cnRX6_74 ?_
  refine b_iastN C dX6_init_241 (Nat.le_of_ble_eq_true rfl) ws_eq (j := 21) rfl (by omega) (by decide) ?_
  refine b_eq rfl rfl ws_same ?_
  refine b_dup C dX6_init_242 rfl ?_
  refine b_bipush C dX6_init_243 (v := 22) (by decide) ?_
  refine b_ldc C dX6_init_245 cnRX6_75 ?_
  refine b_iastN C dX6_init_247 (Nat.le_of_ble_eq_true rfl) ws_eq (j := 22) rfl (by omega) (by decide) ?_
  refine b_eq rfl rfl ws_same ?_
  refine b_dup C dX6_init_248 rfl ?_
  refine b_bipush C dX6_init_249 (v := 23) (by decide) ?_
  refine b_ldc C dX6_init_251 cnRX6_76 ?_
  refine b_iastN C dX6_init_253 (Nat.le_of_ble_eq_true rfl) ws_eq (j := 23) rfl (by omega) (by decide) ?_
  refine b_eq rfl rfl ws_same ?_
  refine b_dup C dX6_init_254 rfl ?_
  refine b_bipush C dX6_init_255 (v := 24) (by decide) ?_
  refine b_ldc C dX6_init_257 cnRX6_77 ?_
  refine b_iastN C dX6_init_259 (Nat.le_of_ble_eq_true rfl) ws_eq (j := 24) rfl (by omega) (by decide) ?_
  refine b_eq rfl rfl ws_same ?_
  refine b_dup C dX6_init_260 rfl ?_
  refine b_bipush C dX6_init_261 (v := 25) (by decide) ?_
  refine b_ldc C dX6_init_263 cnRX6_78 ?_
  refine b_iastN C dX6_init_265 (Nat.le_of_ble_eq_true rfl) ws_eq (j := 25) rfl (by omega) (by decide) ?_
  refine b_eq rfl rfl ws_same ?_
  refine b_dup C dX6_init_266 rfl ?_
  refine b_bipush C dX6_init_267 (v := 26) (by decide) ?_
  refine b_ldc C dX6_init_269 cnRX6_79 ?_
  refine b_iastN C dX6_init_271 (Nat.le_of_ble_eq_true rfl) ws_eq (j := 26) rfl (by omega) (by decide) ?_
  refine b_eq rfl rfl ws_same ?_
  refine b_dup C dX6_init_272 rfl ?_
  refine b_bipush C dX6_init_273 (v := 27) (by decide) ?_
  refine b_ldc C dX6_init_275 cnRX6_80 ?_
  refine b_iastN C dX6_init_277 (Nat.le_of_ble_eq_true rfl) ws_eq (j := 27) rfl (by omega) (by decide) ?_
  refine b_eq rfl rfl ws_same ?_
  refine b_dup C dX6_init_278 rfl ?_
  refine b_bipush C dX6_init_279 (v := 28) (by decide) ?_
  refine b_ldc C dX6_init_281 cnRX6_81 ?_
  refine b_iastN C dX6_init_283 (Nat.le_of_ble_eq_true rfl) ws_eq (j := 28) rfl (by omega) (by decide) ?_
  refine b_eq rfl rfl ws_same ?_
  refine b_dup C dX6_init_284 rfl ?_
  refine b_bipush C dX6_init_285 (v := 29) (by decide) ?_
  refine b_ldc C dX6_init_287 cnRX6_82 ?_
  refine b_iastN C dX6_init_289 (Nat.le_of_ble_eq_true rfl) ws_eq (j := 29) rfl (by omega) (by decide) ?_
  refine b_eq rfl rfl ws_same ?_
  refine b_dup C dX6_init_290 rfl ?_
  refine b_bipush C dX6_init_291 (v := 30) (by decide) ?_
  refine b_ldc C dX6_init_293 cnRX6_83 ?_
  refine b_iastN C dX6_init_295 (Nat.le_of_ble_eq_true rfl) ws_eq (j := 30) rfl (by omega) (by decide) ?_
  refine b_eq rfl rfl ws_same ?_
  refine b_dup C dX6_init_296 rfl ?_
  refine b_bipush C dX6_init_297 (v := 31) (by decide) ?_
  refine b_ldc C dX6_init_299 cnRX6_84 ?_
  refine b_iastN C dX6_init_301 (Nat.le_of_ble_eq_true rfl) ws_eq (j := 31) rfl (by omega) (by decide) ?_
  refine b_eq rfl rfl ws_same ?_
  refine b_dup C dX6_init_302 rfl ?_
  refine b_bipush C dX6_init_303 (v := 32) (by decide) ?_
  refine b_ldc C dX6_init_305 cnRX6_85 ?_
  refine b_iastN C dX6_init_307 (Nat.le_of_ble_eq_true rfl) ws_eq (j := 32) rfl (by omega) (by decide) ?_
  refine b_eq rfl rfl ws_same ?_
  refine b_dup C dX6_init_308 rfl ?_
  refine b_bipush C dX6_init_309 (v := 33) (by decide) ?_
  refine b_ldc C dX6_init_311 cnRX6_86 ?_
  refine b_iastN C dX6_init_313 (Nat.le_of_ble_eq_true rfl) ws_eq (j := 33) rfl (by omega) (by decide) ?_
  refine b_eq rfl rfl ws_same ?_
  refine b_dup C dX6_init_314 rfl ?_
  refine b_bipush C dX6_init_315 (v := 34) (by decide) ?_
  refine b_ldc C dX6_init_317 cnRX6_87 ?_
  refine b_iastN C dX6_init_319 (Nat.le_of_ble_eq_true rfl) ws_eq (j := 34) rfl (by omega) (by decide) ?_
  refine b_eq rfl rfl ws_same ?_
  refine b_dup C dX6_init_320 rfl ?_
  refine b_bipush C dX6_init_321 (v := 35) (by decide) ?_
  refine b_ldc C dX6_init_323 cnRX6_88 ?_
  refine b_iastN C dX6_init_325 (Nat.le_of_ble_eq_true rfl) ws_eq (j := 35) rfl (by omega) (by decide) ?_
  refine b_eq rfl rfl ws_same ?_
  refine b_dup C dX6_init_326 rfl ?_
  refine b_bipush C dX6_init_327 (v := 36) (by decide) ?_
  refine b_ldc C dX6_init_329 cnRX6_89 ?_
  refine b_iastN C dX6_init_331 (Nat.le_of_ble_eq_true rfl) ws_eq (j := 36) rfl (by omega) (by decide) ?_
  refine b_eq rfl rfl ws_same ?_
  refine b_dup C dX6_init_332 rfl ?_
  refine b_bipush C dX6_init_333 (v := 37) (by decide) ?_
  refine b_ldc C dX6_init_335 cnRX6_90 ?_
  refine b_iastN C dX6_init_337 (Nat.le_of_ble_eq_true rfl) ws_eq (j := 37) rfl (by omega) (by decide) ?_
  refine b_eq rfl rfl ws_same ?_
  refine b_dup C dX6_init_338 rfl ?_
  refine b_bipush C dX6_init_339 (v := 38) (by decide) ?_
  refine b_ldc C dX6_init_341 cnRX6_91 ?_
  refine b_iastN C dX6_init_343 (Nat.le_of_ble_eq_true rfl) ws_eq (j := 38) rfl (by omega) (by decide) ?_
  refine b_eq rfl rfl ws_same ?_
  refine b_dup C dX6_init_344 rfl ?_
  refine b_bipush C dX6_init_345 (v := 39) (by decide) ?_
  refine b_ldc C dX6_init_347 cnRX6_92 ?_
  refine b_iastN C dX6_init_349 (Nat.le_of_ble_eq_true rfl) ws_eq (j := 39) rfl (by omega) (by decide) ?_
  refine b_eq rfl rfl ws_same ?_
  refine b_dup C dX6_init_350 rfl ?_
  refine b_bipush C dX6_init_351 (v := 40) (by decide) ?_
  refine b_ldc C dX6_init_353 cnRX6_93 ?_
  refine b_iastN C dX6_init_355 (Nat.le_of_ble_eq_true rfl) ws_eq (j := 40) rfl (by omega) (by decide) ?_
  refine b_eq rfl rfl ws_same ?_
  refine b_dup C dX6_init_356 rfl ?_
  refine b_bipush C dX6_init_357 (v := 41) (by decide) ?_
  refine b_ldc C dX6_init_359 cnRX6_94 ?_
  refine b_iastN C dX6_init_361 (Nat.le_of_ble_eq_true rfl) ws_eq (j := 41) rfl (by omega) (by decide) ?_
  refine b_eq rfl rfl ws_same ?_
  refine b_dup C dX6_init_362 rfl ?_
  refine b_bipush C dX6_init_363 (v := 42) (by decide) ?_
  refine b_ldc C dX6_init_365 cnRX6_95 ?_
  refine b_iastN C dX6_init_367 (Nat.le_of_ble_eq_true rfl) ws_eq (j := 42) rfl (by omega) (by decide) ?_
  refine b_eq rfl rfl ws_same ?_
  refine b_dup C dX6_init_368 rfl ?_
  refine b_bipush C dX6_init_369 (v := 43) (by decide) ?_
  refine b_ldc C dX6_init_371 cnRX6_96 ?_
  refine b_iastN C dX6_init_373 (Nat.le_of_ble_eq_true rfl) ws_eq (j := 43) rfl (by omega) (by decide) ?_
  refine b_eq rfl rfl ws_same ?_
  refine b_dup C dX6_init_374 rfl ?_
  refine b_bipush C dX6_init_375 (v := 44) (by decide) ?_
  refine b_ldc C dX6_init_377 cnRX6_97 ?_
  refine b_iastN C dX6_init_379 (Nat.le_of_ble_eq_true rfl) ws_eq (j := 44) rfl (by omega) (by decide) ?_
  refine b_eq rfl rfl ws_same ?_
  refine b_dup C dX6_init_380 rfl ?_
  refine b_bipush C dX6_init_381 (v := 45) (by decide) ?_
  refine b_ldc C dX6_init_383 cnRX6_98 ?_
  refine b_iastN C dX6_init_385 (Nat.le_of_ble_eq_true rfl) ws_eq (j := 45) rfl (by omega) (by decide) ?_
  refine b_eq rfl rfl ws_same ?_
  refine b_dup C dX6_init_386 rfl ?_
  refine b_bipush C dX6_init_387 (v := 46) (by decide) ?_
  refine b_ldc C dX6_init_389 cnRX6_99 ?_
  refine b_iastN C dX6_init_391 (Nat.le_of_ble_eq_true rfl) ws_eq (j := 46) rfl (by omega) (by decide) ?_
  refine b_eq rfl rfl ws_same ?_
  refine b_dup C dX6_init_392 rfl ?_
  refine b_bipush C dX6_init_393 (v := 47) (by decide) ?_
  refine b_ldc C dX6_init_395 cnRX6_100 ?_
  refine b_iastN C dX6_init_397 (Nat.le_of_ble_eq_true rfl) ws_eq (j := 47) rfl (by omega) (by decide) ?_
  refine b_eq rfl rfl ws_same ?_
  refine b_dup C dX6_init_398 rfl ?_
  refine b_bipush C dX6_init_399 (v := 48) (by decide) ?_
  refine b_ldc C dX6_init_401 cnRX6_101 ?_
  refine b_iastN C dX6_init_403 (Nat.le_of_ble_eq_true rfl) ws_eq (j := 48) rfl (by omega) (by decide) ?_
  refine b_eq rfl rfl ws_same ?_
  refine b_dup C dX6_init_404 rfl ?_
  refine b_bipush C dX6_init_405 (v := 49) (by decide) ?_
  refine b_ldc C dX6_init_407 cnRX6_102 ?_
  refine b_iastN C dX6_init_409 (Nat.le_of_ble_eq_true rfl) ws_eq (j := 49) rfl (by omega) (by decide) ?_
  refine b_eq rfl rfl ws_same ?_
  refine b_dup C dX6_init_410 rfl ?_
  refine b_bipush C dX6_init_411 (v := 50) (by decide) ?_
  refine b_ldc C dX6_init_413 cnRX6_103 ?_
  refine b_iastN C dX6_init_415 (Nat.le_of_ble_eq_true rfl) ws_eq (j := 50) rfl (by omega) (by decide) ?_
  refine b_eq rfl rfl ws_same ?_
  refine b_dup C dX6_init_416 rfl ?_
  refine b_bipush C dX6_init_417 (v := 51) (by decide) ?_
  refine b_ldc C dX6_init_419 cnRX6_104 ?_
  refine b_iastN C dX6_init_421 (Nat.le_of_ble_eq_true rfl) ws_eq (j := 51) rfl (by omega) (by decide) ?_
  refine b_eq rfl rfl ws_same ?_
  refine b_dup C dX6_init_422 rfl ?_
  refine b_bipush C dX6_init_423 (v := 52) (by decide) ?_
  refine b_ldc C dX6_init_425 cnRX6_105 ?_
  refine b_iastN C dX6_init_427 (Nat.le_of_ble_eq_true rfl) ws_eq (j := 52) rfl (by omega) (by decide) ?_
  refine b_eq rfl rfl ws_same ?_
  refine b_dup C dX6_init_428 rfl ?_
  refine b_bipush C dX6_init_429 (v := 53) (by decide) ?_
  refine b_ldc C dX6_init_431 cnRX6_106 ?_
  refine b_iastN C dX6_init_433 (Nat.le_of_ble_eq_true rfl) ws_eq (j := 53) rfl (by omega) (by decide) ?_
  refine b_eq rfl rfl ws_same ?_
  refine b_dup C dX6_init_434 rfl ?_
  refine b_bipush C dX6_init_435 (v := 54) (by decide) ?_
  refine b_ldc C dX6_init_437 cnRX6_107 ?_
  refine b_iastN C dX6_init_439 (Nat.le_of_ble_eq_true rfl) ws_eq (j := 54) rfl (by omega) (by decide) ?_
  refine b_eq rfl rfl ws_same ?_
  refine b_dup C dX6_init_440 rfl ?_
  refine b_bipush C dX6_init_441 (v := 55) (by decide) ?_
  refine b_ldc C dX6_init_443 cnRX6_108 ?_
  refine b_iastN C dX6_init_445 (Nat.le_of_ble_eq_true rfl) ws_eq (j := 55) rfl (by omega) (by decide) ?_
  refine b_eq rfl rfl ws_same ?_
  refine b_dup C dX6_init_446 rfl ?_
  refine b_bipush C dX6_init_447 (v := 56) (by decide) ?_
  refine b_ldc C dX6_init_449 cnRX6_109 ?_
  refine b_iastN C dX6_init_451 (Nat.le_of_ble_eq_true rfl) ws_eq (j := 56) rfl (by omega) (by decide) ?_
  refine b_eq rfl rfl ws_same ?_
  refine b_dup C dX6_init_452 rfl ?_
  refine b_bipush C dX6_init_453 (v := 57) (by decide) ?_
  refine b_ldc C dX6_init_455 cnRX6_110 ?_
  refine b_iastN C dX6_init_457 (Nat.le_of_ble_eq_true rfl) ws_eq (j := 57) rfl (by omega) (by decide) ?_
  refine b_eq rfl rfl ws_same ?_
  refine b_dup C dX6_init_458 rfl ?_
  refine b_bipush C dX6_init_459 (v := 58) (by decide) ?_
  refine b_ldc C dX6_init_461 cnRX6_111 ?_
  refine b_iastN C dX6_init_463 (Nat.le_of_ble_eq_true rfl) ws_eq (j := 58) rfl (by omega) (by decide) ?_
  refine b_eq rfl rfl ws_same ?_
  refine b_dup C dX6_init_464 rfl ?_
  refine b_bipush C dX6_init_465 (v := 59) (by decide) ?_
  refine b_ldc C dX6_init_467 cnRX6_112 ?_
  refine b_iastN C dX6_init_469 (Nat.le_of_ble_eq_true rfl) ws_eq (j := 59) rfl (by omega) (by decide) ?_
  refine b_eq rfl rfl ws_same ?_
  refine b_dup C dX6_init_470 rfl ?_
  refine b_bipush C dX6_init_471 (v := 60) (by decide) ?_
  refine b_ldc C dX6_init_473 cnRX6_113 ?_
  refine b_iastN C dX6_init_475 (Nat.le_of_ble_eq_true rfl) ws_eq (j := 60) rfl (by omega) (by decide) ?_
  refine b_eq rfl rfl ws_same ?_
  refine b_dup C dX6_init_476 rfl ?_
  refine b_bipush C dX6_init_477 (v := 61) (by decide) ?_
  refine b_ldc C dX6_init_479 cnRX6_114 ?_
  refine b_iastN C dX6_init_481 (Nat.le_of_ble_eq_true rfl) ws_eq (j := 61) rfl (by omega) (by decide) ?_
  refine b_eq rfl rfl ws_same ?_
  refine b_dup C dX6_init_482 rfl ?_
  refine b_bipush C dX6_init_483 (v := 62) (by decide) ?_
  refine b_ldc C dX6_init_485 cnRX6_115 ?_
  refine b_iastN C dX6_init_487 (Nat.le_of_ble_eq_true rfl) ws_eq (j := 62) rfl (by omega) (by decide) ?_
  refine b_eq rfl rfl ws_same ?_
  refine b_dup C dX6_init_488 rfl ?_
  refine b_bipush C dX6_init_489 (v := 63) (by decide) ?_
  refine b_ldc C dX6_init_491 cnRX6_116 ?_
  refine b_iastN C dX6_init_493 (Nat.le_of_ble_eq_true rfl) ws_eq (j := 63) rfl (by omega) (by decide) ?_
  refine b_eq rfl rfl ws_same ?_
  exact kk
def ftn0 : Nat → Int32 := upd (upd (upd (upd (upd (upd (upd (upd (upd (upd (upd (upd (upd (upd (upd (upd (fun _ => 0) 0 7) 1 12) 2 17) 3 22) 4 5) 5 9) 6 14) 7 20) 8 4) 9 11) 10 16) 11 23) 12 6) 13 10) 14 15) 15 21
set_option maxHeartbeats 4000000 in
set_option maxRecDepth 100000 in
theorem fill_48 {g : Ge} {ct : Ct} {k n : Nat} {w : Wo} (C : Cx g mX6_init ct) (h : w 48 = ia 16 (fun _ => 0)) (kk : Bz g mX6_init ct 49 k n 590 [some (.ref 35)] [.ref 48, .ref 35] (wset w 48 (ia 16 ftn0))) : Bz g mX6_init ct 49 k n 502 [some (.ref 35)] [.ref 48, .ref 35] w := by
  refine b_dup C dX6_init_502 rfl ?_
  refine b_iconst C dX6_init_503 (v := 0) (by decide) ?_
  refine b_bipush C dX6_init_504 (v := 7) (by decide) ?_
  refine b_iastN C dX6_init_506 (Nat.le_of_ble_eq_true rfl) h (j := 0) rfl (by omega) (by decide) ?_
  refine b_dup C dX6_init_507 rfl ?_
  refine b_iconst C dX6_init_508 (v := 1) (by decide) ?_
  refine b_bipush C dX6_init_509 (v := 12) (by decide) ?_
  refine b_iastN C dX6_init_511 (Nat.le_of_ble_eq_true rfl) ws_eq (j := 1) rfl (by omega) (by decide) ?_
  refine b_eq rfl rfl ws_same ?_
  refine b_dup C dX6_init_512 rfl ?_
  refine b_iconst C dX6_init_513 (v := 2) (by decide) ?_
  refine b_bipush C dX6_init_514 (v := 17) (by decide) ?_
  refine b_iastN C dX6_init_516 (Nat.le_of_ble_eq_true rfl) ws_eq (j := 2) rfl (by omega) (by decide) ?_
  refine b_eq rfl rfl ws_same ?_
  refine b_dup C dX6_init_517 rfl ?_
  refine b_iconst C dX6_init_518 (v := 3) (by decide) ?_
  refine b_bipush C dX6_init_519 (v := 22) (by decide) ?_
  refine b_iastN C dX6_init_521 (Nat.le_of_ble_eq_true rfl) ws_eq (j := 3) rfl (by omega) (by decide) ?_
  refine b_eq rfl rfl ws_same ?_
  refine b_dup C dX6_init_522 rfl ?_
  refine b_iconst C dX6_init_523 (v := 4) (by decide) ?_
  refine b_iconst C dX6_init_524 (v := 5) (by decide) ?_
  refine b_iastN C dX6_init_525 (Nat.le_of_ble_eq_true rfl) ws_eq (j := 4) rfl (by omega) (by decide) ?_
  refine b_eq rfl rfl ws_same ?_
  refine b_dup C dX6_init_526 rfl ?_
  refine b_iconst C dX6_init_527 (v := 5) (by decide) ?_
  refine b_bipush C dX6_init_528 (v := 9) (by decide) ?_
  refine b_iastN C dX6_init_530 (Nat.le_of_ble_eq_true rfl) ws_eq (j := 5) rfl (by omega) (by decide) ?_
  refine b_eq rfl rfl ws_same ?_
  refine b_dup C dX6_init_531 rfl ?_
  refine b_bipush C dX6_init_532 (v := 6) (by decide) ?_
  refine b_bipush C dX6_init_534 (v := 14) (by decide) ?_
  refine b_iastN C dX6_init_536 (Nat.le_of_ble_eq_true rfl) ws_eq (j := 6) rfl (by omega) (by decide) ?_
  refine b_eq rfl rfl ws_same ?_
  refine b_dup C dX6_init_537 rfl ?_
  refine b_bipush C dX6_init_538 (v := 7) (by decide) ?_
  refine b_bipush C dX6_init_540 (v := 20) (by decide) ?_
  refine b_iastN C dX6_init_542 (Nat.le_of_ble_eq_true rfl) ws_eq (j := 7) rfl (by omega) (by decide) ?_
  refine b_eq rfl rfl ws_same ?_
  refine b_dup C dX6_init_543 rfl ?_
  refine b_bipush C dX6_init_544 (v := 8) (by decide) ?_
  refine b_iconst C dX6_init_546 (v := 4) (by decide) ?_
  refine b_iastN C dX6_init_547 (Nat.le_of_ble_eq_true rfl) ws_eq (j := 8) rfl (by omega) (by decide) ?_
  refine b_eq rfl rfl ws_same ?_
  refine b_dup C dX6_init_548 rfl ?_
  refine b_bipush C dX6_init_549 (v := 9) (by decide) ?_
  refine b_bipush C dX6_init_551 (v := 11) (by decide) ?_
  refine b_iastN C dX6_init_553 (Nat.le_of_ble_eq_true rfl) ws_eq (j := 9) rfl (by omega) (by decide) ?_
  refine b_eq rfl rfl ws_same ?_
  refine b_dup C dX6_init_554 rfl ?_
  refine b_bipush C dX6_init_555 (v := 10) (by decide) ?_
  refine b_bipush C dX6_init_557 (v := 16) (by decide) ?_
  refine b_iastN C dX6_init_559 (Nat.le_of_ble_eq_true rfl) ws_eq (j := 10) rfl (by omega) (by decide) ?_
  refine b_eq rfl rfl ws_same ?_
  refine b_dup C dX6_init_560 rfl ?_
  refine b_bipush C dX6_init_561 (v := 11) (by decide) ?_
  refine b_bipush C dX6_init_563 (v := 23) (by decide) ?_
  refine b_iastN C dX6_init_565 (Nat.le_of_ble_eq_true rfl) ws_eq (j := 11) rfl (by omega) (by decide) ?_
  refine b_eq rfl rfl ws_same ?_
  refine b_dup C dX6_init_566 rfl ?_
  refine b_bipush C dX6_init_567 (v := 12) (by decide) ?_
  refine b_bipush C dX6_init_569 (v := 6) (by decide) ?_
  refine b_iastN C dX6_init_571 (Nat.le_of_ble_eq_true rfl) ws_eq (j := 12) rfl (by omega) (by decide) ?_
  refine b_eq rfl rfl ws_same ?_
  refine b_dup C dX6_init_572 rfl ?_
  refine b_bipush C dX6_init_573 (v := 13) (by decide) ?_
  refine b_bipush C dX6_init_575 (v := 10) (by decide) ?_
  refine b_iastN C dX6_init_577 (Nat.le_of_ble_eq_true rfl) ws_eq (j := 13) rfl (by omega) (by decide) ?_
  refine b_eq rfl rfl ws_same ?_
  refine b_dup C dX6_init_578 rfl ?_
  refine b_bipush C dX6_init_579 (v := 14) (by decide) ?_
  refine b_bipush C dX6_init_581 (v := 15) (by decide) ?_
  refine b_iastN C dX6_init_583 (Nat.le_of_ble_eq_true rfl) ws_eq (j := 14) rfl (by omega) (by decide) ?_
  refine b_eq rfl rfl ws_same ?_
  refine b_dup C dX6_init_584 rfl ?_
  refine b_bipush C dX6_init_585 (v := 15) (by decide) ?_
  refine b_bipush C dX6_init_587 (v := 21) (by decide) ?_
  refine b_iastN C dX6_init_589 (Nat.le_of_ble_eq_true rfl) ws_eq (j := 15) rfl (by omega) (by decide) ?_
  refine b_eq rfl rfl ws_same ?_
  exact kk
def fpd0 : Nat → Int32 := upd (upd (upd (upd (upd (upd (upd (upd (upd (upd (upd (upd (upd (upd (upd (upd (upd (upd (upd (upd (upd (upd (upd (upd (upd (upd (upd (upd (upd (upd (upd (upd (fun _ => 0) 0 40) 1 191) 2 78) 3 94) 4 78) 5 117) 6 138) 7 65) 8 100) 9 0) 10 78) 11 86) 12 255) 13 250) 14 1) 15 8) 16 46) 17 46) 18 0) 19 182) 20 208) 21 104) 22 62) 23 128) 24 47) 25 12) 26 169) 27 254) 28 100) 29 83) 30 105) 31 122
set_option maxHeartbeats 4000000 in
set_option maxRecDepth 100000 in
theorem fill_49 {g : Ge} {ct : Ct} {k n : Nat} {w : Wo} (C : Cx g mX6_init ct) (h : w 49 = ia 32 (fun _ => 0)) (kk : Bz g mX6_init ct 50 k n 790 [some (.ref 35)] [.ref 49, .ref 35] (wset w 49 (ia 32 fpd0))) : Bz g mX6_init ct 50 k n 598 [some (.ref 35)] [.ref 49, .ref 35] w := by
  refine b_dup C dX6_init_598 rfl ?_
  refine b_iconst C dX6_init_599 (v := 0) (by decide) ?_
  refine b_bipush C dX6_init_600 (v := 40) (by decide) ?_
  refine b_iastN C dX6_init_602 (Nat.le_of_ble_eq_true rfl) h (j := 0) rfl (by omega) (by decide) ?_
  refine b_dup C dX6_init_603 rfl ?_
  refine b_iconst C dX6_init_604 (v := 1) (by decide) ?_
  refine b_sipush C dX6_init_605 (v := 191) (by decide) ?_
  refine b_iastN C dX6_init_608 (Nat.le_of_ble_eq_true rfl) ws_eq (j := 1) rfl (by omega) (by decide) ?_
  refine b_eq rfl rfl ws_same ?_
  refine b_dup C dX6_init_609 rfl ?_
  refine b_iconst C dX6_init_610 (v := 2) (by decide) ?_
  refine b_bipush C dX6_init_611 (v := 78) (by decide) ?_
  refine b_iastN C dX6_init_613 (Nat.le_of_ble_eq_true rfl) ws_eq (j := 2) rfl (by omega) (by decide) ?_
  refine b_eq rfl rfl ws_same ?_
  refine b_dup C dX6_init_614 rfl ?_
  refine b_iconst C dX6_init_615 (v := 3) (by decide) ?_
  refine b_bipush C dX6_init_616 (v := 94) (by decide) ?_
  refine b_iastN C dX6_init_618 (Nat.le_of_ble_eq_true rfl) ws_eq (j := 3) rfl (by omega) (by decide) ?_
  refine b_eq rfl rfl ws_same ?_
  refine b_dup C dX6_init_619 rfl ?_
  refine b_iconst C dX6_init_620 (v := 4) (by decide) ?_
  refine b_bipush C dX6_init_621 (v := 78) (by decide) ?_
  refine b_iastN C dX6_init_623 (Nat.le_of_ble_eq_true rfl) ws_eq (j := 4) rfl (by omega) (by decide) ?_
  refine b_eq rfl rfl ws_same ?_
  refine b_dup C dX6_init_624 rfl ?_
  refine b_iconst C dX6_init_625 (v := 5) (by decide) ?_
  refine b_bipush C dX6_init_626 (v := 117) (by decide) ?_
  refine b_iastN C dX6_init_628 (Nat.le_of_ble_eq_true rfl) ws_eq (j := 5) rfl (by omega) (by decide) ?_
  refine b_eq rfl rfl ws_same ?_
  refine b_dup C dX6_init_629 rfl ?_
  refine b_bipush C dX6_init_630 (v := 6) (by decide) ?_
  refine b_sipush C dX6_init_632 (v := 138) (by decide) ?_
  refine b_iastN C dX6_init_635 (Nat.le_of_ble_eq_true rfl) ws_eq (j := 6) rfl (by omega) (by decide) ?_
  refine b_eq rfl rfl ws_same ?_
  refine b_dup C dX6_init_636 rfl ?_
  refine b_bipush C dX6_init_637 (v := 7) (by decide) ?_
  refine b_bipush C dX6_init_639 (v := 65) (by decide) ?_
  refine b_iastN C dX6_init_641 (Nat.le_of_ble_eq_true rfl) ws_eq (j := 7) rfl (by omega) (by decide) ?_
  refine b_eq rfl rfl ws_same ?_
  refine b_dup C dX6_init_642 rfl ?_
  refine b_bipush C dX6_init_643 (v := 8) (by decide) ?_
  refine b_bipush C dX6_init_645 (v := 100) (by decide) ?_
  refine b_iastN C dX6_init_647 (Nat.le_of_ble_eq_true rfl) ws_eq (j := 8) rfl (by omega) (by decide) ?_
  refine b_eq rfl rfl ws_same ?_
  refine b_dup C dX6_init_648 rfl ?_
  refine b_bipush C dX6_init_649 (v := 9) (by decide) ?_
  refine b_iconst C dX6_init_651 (v := 0) (by decide) ?_
  refine b_iastN C dX6_init_652 (Nat.le_of_ble_eq_true rfl) ws_eq (j := 9) rfl (by omega) (by decide) ?_
  refine b_eq rfl rfl ws_same ?_
  refine b_dup C dX6_init_653 rfl ?_
  refine b_bipush C dX6_init_654 (v := 10) (by decide) ?_
  refine b_bipush C dX6_init_656 (v := 78) (by decide) ?_
  refine b_iastN C dX6_init_658 (Nat.le_of_ble_eq_true rfl) ws_eq (j := 10) rfl (by omega) (by decide) ?_
  refine b_eq rfl rfl ws_same ?_
  refine b_dup C dX6_init_659 rfl ?_
  refine b_bipush C dX6_init_660 (v := 11) (by decide) ?_
  refine b_bipush C dX6_init_662 (v := 86) (by decide) ?_
  refine b_iastN C dX6_init_664 (Nat.le_of_ble_eq_true rfl) ws_eq (j := 11) rfl (by omega) (by decide) ?_
  refine b_eq rfl rfl ws_same ?_
  refine b_dup C dX6_init_665 rfl ?_
  refine b_bipush C dX6_init_666 (v := 12) (by decide) ?_
  refine b_sipush C dX6_init_668 (v := 255) (by decide) ?_
  refine b_iastN C dX6_init_671 (Nat.le_of_ble_eq_true rfl) ws_eq (j := 12) rfl (by omega) (by decide) ?_
  refine b_eq rfl rfl ws_same ?_
  refine b_dup C dX6_init_672 rfl ?_
  refine b_bipush C dX6_init_673 (v := 13) (by decide) ?_
  refine b_sipush C dX6_init_675 (v := 250) (by decide) ?_
  refine b_iastN C dX6_init_678 (Nat.le_of_ble_eq_true rfl) ws_eq (j := 13) rfl (by omega) (by decide) ?_
  refine b_eq rfl rfl ws_same ?_
  refine b_dup C dX6_init_679 rfl ?_
  refine b_bipush C dX6_init_680 (v := 14) (by decide) ?_
  refine b_iconst C dX6_init_682 (v := 1) (by decide) ?_
  refine b_iastN C dX6_init_683 (Nat.le_of_ble_eq_true rfl) ws_eq (j := 14) rfl (by omega) (by decide) ?_
  refine b_eq rfl rfl ws_same ?_
  refine b_dup C dX6_init_684 rfl ?_
  refine b_bipush C dX6_init_685 (v := 15) (by decide) ?_
  refine b_bipush C dX6_init_687 (v := 8) (by decide) ?_
  refine b_iastN C dX6_init_689 (Nat.le_of_ble_eq_true rfl) ws_eq (j := 15) rfl (by omega) (by decide) ?_
  refine b_eq rfl rfl ws_same ?_
  refine b_dup C dX6_init_690 rfl ?_
  refine b_bipush C dX6_init_691 (v := 16) (by decide) ?_
  refine b_bipush C dX6_init_693 (v := 46) (by decide) ?_
  refine b_iastN C dX6_init_695 (Nat.le_of_ble_eq_true rfl) ws_eq (j := 16) rfl (by omega) (by decide) ?_
  refine b_eq rfl rfl ws_same ?_
  refine b_dup C dX6_init_696 rfl ?_
  refine b_bipush C dX6_init_697 (v := 17) (by decide) ?_
  refine b_bipush C dX6_init_699 (v := 46) (by decide) ?_
  refine b_iastN C dX6_init_701 (Nat.le_of_ble_eq_true rfl) ws_eq (j := 17) rfl (by omega) (by decide) ?_
  refine b_eq rfl rfl ws_same ?_
  refine b_dup C dX6_init_702 rfl ?_
  refine b_bipush C dX6_init_703 (v := 18) (by decide) ?_
  refine b_iconst C dX6_init_705 (v := 0) (by decide) ?_
  refine b_iastN C dX6_init_706 (Nat.le_of_ble_eq_true rfl) ws_eq (j := 18) rfl (by omega) (by decide) ?_
  refine b_eq rfl rfl ws_same ?_
  refine b_dup C dX6_init_707 rfl ?_
  refine b_bipush C dX6_init_708 (v := 19) (by decide) ?_
  refine b_sipush C dX6_init_710 (v := 182) (by decide) ?_
  refine b_iastN C dX6_init_713 (Nat.le_of_ble_eq_true rfl) ws_eq (j := 19) rfl (by omega) (by decide) ?_
  refine b_eq rfl rfl ws_same ?_
  refine b_dup C dX6_init_714 rfl ?_
  refine b_bipush C dX6_init_715 (v := 20) (by decide) ?_
  refine b_sipush C dX6_init_717 (v := 208) (by decide) ?_
  refine b_iastN C dX6_init_720 (Nat.le_of_ble_eq_true rfl) ws_eq (j := 20) rfl (by omega) (by decide) ?_
  refine b_eq rfl rfl ws_same ?_
  refine b_dup C dX6_init_721 rfl ?_
  refine b_bipush C dX6_init_722 (v := 21) (by decide) ?_
  refine b_bipush C dX6_init_724 (v := 104) (by decide) ?_
  refine b_iastN C dX6_init_726 (Nat.le_of_ble_eq_true rfl) ws_eq (j := 21) rfl (by omega) (by decide) ?_
  refine b_eq rfl rfl ws_same ?_
  refine b_dup C dX6_init_727 rfl ?_
  refine b_bipush C dX6_init_728 (v := 22) (by decide) ?_
  refine b_bipush C dX6_init_730 (v := 62) (by decide) ?_
  refine b_iastN C dX6_init_732 (Nat.le_of_ble_eq_true rfl) ws_eq (j := 22) rfl (by omega) (by decide) ?_
  refine b_eq rfl rfl ws_same ?_
  refine b_dup C dX6_init_733 rfl ?_
  refine b_bipush C dX6_init_734 (v := 23) (by decide) ?_
  refine b_sipush C dX6_init_736 (v := 128) (by decide) ?_
  refine b_iastN C dX6_init_739 (Nat.le_of_ble_eq_true rfl) ws_eq (j := 23) rfl (by omega) (by decide) ?_
  refine b_eq rfl rfl ws_same ?_
  refine b_dup C dX6_init_740 rfl ?_
  refine b_bipush C dX6_init_741 (v := 24) (by decide) ?_
  refine b_bipush C dX6_init_743 (v := 47) (by decide) ?_
  refine b_iastN C dX6_init_745 (Nat.le_of_ble_eq_true rfl) ws_eq (j := 24) rfl (by omega) (by decide) ?_
  refine b_eq rfl rfl ws_same ?_
  refine b_dup C dX6_init_746 rfl ?_
  refine b_bipush C dX6_init_747 (v := 25) (by decide) ?_
  refine b_bipush C dX6_init_749 (v := 12) (by decide) ?_
  refine b_iastN C dX6_init_751 (Nat.le_of_ble_eq_true rfl) ws_eq (j := 25) rfl (by omega) (by decide) ?_
  refine b_eq rfl rfl ws_same ?_
  refine b_dup C dX6_init_752 rfl ?_
  refine b_bipush C dX6_init_753 (v := 26) (by decide) ?_
  refine b_sipush C dX6_init_755 (v := 169) (by decide) ?_
  refine b_iastN C dX6_init_758 (Nat.le_of_ble_eq_true rfl) ws_eq (j := 26) rfl (by omega) (by decide) ?_
  refine b_eq rfl rfl ws_same ?_
  refine b_dup C dX6_init_759 rfl ?_
  refine b_bipush C dX6_init_760 (v := 27) (by decide) ?_
  refine b_sipush C dX6_init_762 (v := 254) (by decide) ?_
  refine b_iastN C dX6_init_765 (Nat.le_of_ble_eq_true rfl) ws_eq (j := 27) rfl (by omega) (by decide) ?_
  refine b_eq rfl rfl ws_same ?_
  refine b_dup C dX6_init_766 rfl ?_
  refine b_bipush C dX6_init_767 (v := 28) (by decide) ?_
  refine b_bipush C dX6_init_769 (v := 100) (by decide) ?_
  refine b_iastN C dX6_init_771 (Nat.le_of_ble_eq_true rfl) ws_eq (j := 28) rfl (by omega) (by decide) ?_
  refine b_eq rfl rfl ws_same ?_
  refine b_dup C dX6_init_772 rfl ?_
  refine b_bipush C dX6_init_773 (v := 29) (by decide) ?_
  refine b_bipush C dX6_init_775 (v := 83) (by decide) ?_
  refine b_iastN C dX6_init_777 (Nat.le_of_ble_eq_true rfl) ws_eq (j := 29) rfl (by omega) (by decide) ?_
  refine b_eq rfl rfl ws_same ?_
  refine b_dup C dX6_init_778 rfl ?_
  refine b_bipush C dX6_init_779 (v := 30) (by decide) ?_
  refine b_bipush C dX6_init_781 (v := 105) (by decide) ?_
  refine b_iastN C dX6_init_783 (Nat.le_of_ble_eq_true rfl) ws_eq (j := 30) rfl (by omega) (by decide) ?_
  refine b_eq rfl rfl ws_same ?_
  refine b_dup C dX6_init_784 rfl ?_
  refine b_bipush C dX6_init_785 (v := 31) (by decide) ?_
  refine b_bipush C dX6_init_787 (v := 122) (by decide) ?_
  refine b_iastN C dX6_init_789 (Nat.le_of_ble_eq_true rfl) ws_eq (j := 31) rfl (by omega) (by decide) ?_
  refine b_eq rfl rfl ws_same ?_
  exact kk
set_option maxHeartbeats 4000000 in
set_option maxRecDepth 100000 in
theorem cnX6_init {w : Wo} (w_35 : w 35 = ob 6 [.int 0, .int 0, .null, .int 0, .null, .int 0, .int 0, .int 0, .int 0, .null, .null, .int 0, .null, .int 0, .null, .int 0, .null, .int 0, .null, .int 0, .null, .null, .null, .null, .null, .null, .int 0, .null, .null, .null, .null, .null, .null, .null, .null, .null]) : Cns mX6_init [.ref 35] w 36 (wset (wset (wset (wset (wset (wset (wset (wset (wset (wset (wset (wset (wset (wset (wset (wset (wset (wset (wset (wset (wset (wset (wset (wset w 36 (ia 16384 (fun _ => 0))) 35 (ob 6 [.int 0, .int 0, .ref 36, .int 0, .ref 37, .int 3, .int 16, .int (-4), .int 0, .ref 38, .ref 39, .int 0, .ref 40, .int 0, .ref 41, .int 0, .ref 42, .int 0, .ref 43, .int 0, .ref 44, .ref 45, .ref 46, .ref 47, .ref 48, .ref 49, .int 0, .ref 50, .ref 51, .ref 52, .ref 53, .ref 54, .ref 55, .ref 56, .ref 57, .ref 58])) 37 (ia 16384 (fun _ => 0))) 38 (ia 32 (fun _ => 0))) 39 (ia 32 (fun _ => 0))) 40 (ia 64 (fun _ => 0))) 41 (ia 64 (fun _ => 0))) 42 (ia 64 (fun _ => 0))) 43 (ia 16 (fun _ => 0))) 44 (ia 16512 (fun _ => 0))) 45 (ia 16 (fun _ => 0))) 46 (ia 4 (fun _ => 0))) 47 (ia 64 fsn0)) 48 (ia 16 ftn0)) 49 (ia 32 fpd0)) 50 (ia 16 (fun _ => 0))) 51 (ia 256 (fun _ => 0))) 52 (ia 32 (fun _ => 0))) 53 (ia 32 (fun _ => 0))) 54 (ia 176 (fun _ => 0))) 55 (ia 16 (fun _ => 0))) 56 (ia 16 (fun _ => 0))) 57 (ia 256 (fun _ => 0))) 58 (ia 256 (fun _ => 0))) 59 := by
  refine Cns_intro okX6_init (Nat.le_of_ble_eq_true rfl) rfl (Nat.le_of_ble_eq_true rfl) (L := [some (.ref 35)]) rfl (fun g ct C G IN T_ => ?_)
  refine b_aload_n C dX6_init_0 rfl ?_
  refine b_objinit C dX6_init_1 miRX6_1 oi_inst oi_code (Nat.le_of_ble_eq_true rfl) (Nat.le_of_ble_eq_true rfl) ?_
  refine b_aload_n C dX6_init_4 rfl ?_
  refine b_sipush C dX6_init_5 (v := 16384) (by decide) ?_
  refine b_newi C G dX6_init_8 ac_int (M := 16384) rfl (Nat.le_of_ble_eq_true rfl) rfl (Nat.le_of_ble_eq_true rfl) (Nat.le_of_ble_eq_true rfl) (Nat.le_of_ble_eq_true rfl) (N1 := 37) (k1 := 1) (n1 := 16384) rfl rfl rfl ?_
  refine b_putR C IN dX6_init_10 frRX6_7 (Nat.le_of_ble_eq_true rfl) (ws_ne (Nat.ne_of_beq_eq_false rfl) w_35) (Nat.le_of_ble_eq_true rfl) (fs' := [.int 0, .int 0, .ref 36, .int 0, .null, .int 0, .int 0, .int 0, .int 0, .null, .null, .int 0, .null, .int 0, .null, .int 0, .null, .int 0, .null, .int 0, .null, .null, .null, .null, .null, .null, .int 0, .null, .null, .null, .null, .null, .null, .null, .null, .null]) rfl ?_
  refine b_aload_n C dX6_init_13 rfl ?_
  refine b_sipush C dX6_init_14 (v := 16384) (by decide) ?_
  refine b_newi C G dX6_init_17 ac_int (M := 16384) rfl (Nat.le_of_ble_eq_true rfl) rfl (Nat.le_of_ble_eq_true rfl) (Nat.le_of_ble_eq_true rfl) (Nat.le_of_ble_eq_true rfl) (N1 := 38) (k1 := 2) (n1 := 32768) rfl rfl rfl ?_
  refine b_putR C IN dX6_init_19 frRX6_13 (Nat.le_of_ble_eq_true rfl) (ws_ne (Nat.ne_of_beq_eq_false rfl) ws_eq) (Nat.le_of_ble_eq_true rfl) (fs' := [.int 0, .int 0, .ref 36, .int 0, .ref 37, .int 0, .int 0, .int 0, .int 0, .null, .null, .int 0, .null, .int 0, .null, .int 0, .null, .int 0, .null, .int 0, .null, .null, .null, .null, .null, .null, .int 0, .null, .null, .null, .null, .null, .null, .null, .null, .null]) rfl ?_
  refine b_eq rfl rfl ((ws_comm (Nat.ne_of_beq_eq_false rfl)).trans (congrArg (fun z => wset z 37 (ia 16384 (fun _ => 0))) ws_same)) ?_
  refine b_aload_n C dX6_init_22 rfl ?_
  refine b_iconst C dX6_init_23 (v := 3) (by decide) ?_
  refine b_put C dX6_init_24 fpRX6_16 (Nat.le_of_ble_eq_true rfl) (ws_ne (Nat.ne_of_beq_eq_false rfl) ws_eq) rfl rfl (Nat.le_of_ble_eq_true rfl) (fs' := [.int 0, .int 0, .ref 36, .int 0, .ref 37, .int 3, .int 0, .int 0, .int 0, .null, .null, .int 0, .null, .int 0, .null, .int 0, .null, .int 0, .null, .int 0, .null, .null, .null, .null, .null, .null, .int 0, .null, .null, .null, .null, .null, .null, .null, .null, .null]) rfl ?_
  refine b_eq rfl rfl ((ws_comm (Nat.ne_of_beq_eq_false rfl)).trans (congrArg (fun z => wset z 37 (ia 16384 (fun _ => 0))) ws_same)) ?_
  refine b_aload_n C dX6_init_27 rfl ?_
  refine b_bipush C dX6_init_28 (v := 16) (by decide) ?_
  refine b_put C dX6_init_30 fpRX6_20 (Nat.le_of_ble_eq_true rfl) (ws_ne (Nat.ne_of_beq_eq_false rfl) ws_eq) rfl rfl (Nat.le_of_ble_eq_true rfl) (fs' := [.int 0, .int 0, .ref 36, .int 0, .ref 37, .int 3, .int 16, .int 0, .int 0, .null, .null, .int 0, .null, .int 0, .null, .int 0, .null, .int 0, .null, .int 0, .null, .null, .null, .null, .null, .null, .int 0, .null, .null, .null, .null, .null, .null, .null, .null, .null]) rfl ?_
  refine b_eq rfl rfl ((ws_comm (Nat.ne_of_beq_eq_false rfl)).trans (congrArg (fun z => wset z 37 (ia 16384 (fun _ => 0))) ws_same)) ?_
  refine b_aload_n C dX6_init_33 rfl ?_
  refine b_bipush C dX6_init_34 (v := (-4)) (by decide) ?_
  refine b_put C dX6_init_36 fpRX6_23 (Nat.le_of_ble_eq_true rfl) (ws_ne (Nat.ne_of_beq_eq_false rfl) ws_eq) rfl rfl (Nat.le_of_ble_eq_true rfl) (fs' := [.int 0, .int 0, .ref 36, .int 0, .ref 37, .int 3, .int 16, .int (-4), .int 0, .null, .null, .int 0, .null, .int 0, .null, .int 0, .null, .int 0, .null, .int 0, .null, .null, .null, .null, .null, .null, .int 0, .null, .null, .null, .null, .null, .null, .null, .null, .null]) rfl ?_
  refine b_eq rfl rfl ((ws_comm (Nat.ne_of_beq_eq_false rfl)).trans (congrArg (fun z => wset z 37 (ia 16384 (fun _ => 0))) ws_same)) ?_
  refine b_aload_n C dX6_init_39 rfl ?_
  refine b_bipush C dX6_init_40 (v := 32) (by decide) ?_
  refine b_newi C G dX6_init_42 ac_int (M := 32) rfl (Nat.le_of_ble_eq_true rfl) rfl (Nat.le_of_ble_eq_true rfl) (Nat.le_of_ble_eq_true rfl) (Nat.le_of_ble_eq_true rfl) (N1 := 39) (k1 := 3) (n1 := 32800) rfl rfl rfl ?_
  refine b_putR C IN dX6_init_44 frRX6_26 (Nat.le_of_ble_eq_true rfl) (ws_ne (Nat.ne_of_beq_eq_false rfl) (ws_ne (Nat.ne_of_beq_eq_false rfl) ws_eq)) (Nat.le_of_ble_eq_true rfl) (fs' := [.int 0, .int 0, .ref 36, .int 0, .ref 37, .int 3, .int 16, .int (-4), .int 0, .ref 38, .null, .int 0, .null, .int 0, .null, .int 0, .null, .int 0, .null, .int 0, .null, .null, .null, .null, .null, .null, .int 0, .null, .null, .null, .null, .null, .null, .null, .null, .null]) rfl ?_
  refine b_eq rfl rfl ((ws_comm (Nat.ne_of_beq_eq_false rfl)).trans (congrArg (fun z => wset z 38 (ia 32 (fun _ => 0))) ((ws_comm (Nat.ne_of_beq_eq_false rfl)).trans (congrArg (fun z => wset z 37 (ia 16384 (fun _ => 0))) ws_same)))) ?_
  refine b_aload_n C dX6_init_47 rfl ?_
  refine b_bipush C dX6_init_48 (v := 32) (by decide) ?_
  refine b_newi C G dX6_init_50 ac_int (M := 32) rfl (Nat.le_of_ble_eq_true rfl) rfl (Nat.le_of_ble_eq_true rfl) (Nat.le_of_ble_eq_true rfl) (Nat.le_of_ble_eq_true rfl) (N1 := 40) (k1 := 4) (n1 := 32832) rfl rfl rfl ?_
  refine b_putR C IN dX6_init_52 frRX6_29 (Nat.le_of_ble_eq_true rfl) (ws_ne (Nat.ne_of_beq_eq_false rfl) (ws_ne (Nat.ne_of_beq_eq_false rfl) (ws_ne (Nat.ne_of_beq_eq_false rfl) ws_eq))) (Nat.le_of_ble_eq_true rfl) (fs' := [.int 0, .int 0, .ref 36, .int 0, .ref 37, .int 3, .int 16, .int (-4), .int 0, .ref 38, .ref 39, .int 0, .null, .int 0, .null, .int 0, .null, .int 0, .null, .int 0, .null, .null, .null, .null, .null, .null, .int 0, .null, .null, .null, .null, .null, .null, .null, .null, .null]) rfl ?_
  refine b_eq rfl rfl ((ws_comm (Nat.ne_of_beq_eq_false rfl)).trans (congrArg (fun z => wset z 39 (ia 32 (fun _ => 0))) ((ws_comm (Nat.ne_of_beq_eq_false rfl)).trans (congrArg (fun z => wset z 38 (ia 32 (fun _ => 0))) ((ws_comm (Nat.ne_of_beq_eq_false rfl)).trans (congrArg (fun z => wset z 37 (ia 16384 (fun _ => 0))) ws_same)))))) ?_
  refine b_aload_n C dX6_init_55 rfl ?_
  refine b_bipush C dX6_init_56 (v := 64) (by decide) ?_
  refine b_newi C G dX6_init_58 ac_int (M := 64) rfl (Nat.le_of_ble_eq_true rfl) rfl (Nat.le_of_ble_eq_true rfl) (Nat.le_of_ble_eq_true rfl) (Nat.le_of_ble_eq_true rfl) (N1 := 41) (k1 := 5) (n1 := 32896) rfl rfl rfl ?_
  refine b_putR C IN dX6_init_60 frRX6_32 (Nat.le_of_ble_eq_true rfl) (ws_ne (Nat.ne_of_beq_eq_false rfl) (ws_ne (Nat.ne_of_beq_eq_false rfl) (ws_ne (Nat.ne_of_beq_eq_false rfl) (ws_ne (Nat.ne_of_beq_eq_false rfl) ws_eq)))) (Nat.le_of_ble_eq_true rfl) (fs' := [.int 0, .int 0, .ref 36, .int 0, .ref 37, .int 3, .int 16, .int (-4), .int 0, .ref 38, .ref 39, .int 0, .ref 40, .int 0, .null, .int 0, .null, .int 0, .null, .int 0, .null, .null, .null, .null, .null, .null, .int 0, .null, .null, .null, .null, .null, .null, .null, .null, .null]) rfl ?_
  refine b_eq rfl rfl ((ws_comm (Nat.ne_of_beq_eq_false rfl)).trans (congrArg (fun z => wset z 40 (ia 64 (fun _ => 0))) ((ws_comm (Nat.ne_of_beq_eq_false rfl)).trans (congrArg (fun z => wset z 39 (ia 32 (fun _ => 0))) ((ws_comm (Nat.ne_of_beq_eq_false rfl)).trans (congrArg (fun z => wset z 38 (ia 32 (fun _ => 0))) ((ws_comm (Nat.ne_of_beq_eq_false rfl)).trans (congrArg (fun z => wset z 37 (ia 16384 (fun _ => 0))) ws_same)))))))) ?_
  refine b_aload_n C dX6_init_63 rfl ?_
  refine b_bipush C dX6_init_64 (v := 64) (by decide) ?_
  refine b_newi C G dX6_init_66 ac_int (M := 64) rfl (Nat.le_of_ble_eq_true rfl) rfl (Nat.le_of_ble_eq_true rfl) (Nat.le_of_ble_eq_true rfl) (Nat.le_of_ble_eq_true rfl) (N1 := 42) (k1 := 6) (n1 := 32960) rfl rfl rfl ?_
  refine b_putR C IN dX6_init_68 frRX6_35 (Nat.le_of_ble_eq_true rfl) (ws_ne (Nat.ne_of_beq_eq_false rfl) (ws_ne (Nat.ne_of_beq_eq_false rfl) (ws_ne (Nat.ne_of_beq_eq_false rfl) (ws_ne (Nat.ne_of_beq_eq_false rfl) (ws_ne (Nat.ne_of_beq_eq_false rfl) ws_eq))))) (Nat.le_of_ble_eq_true rfl) (fs' := [.int 0, .int 0, .ref 36, .int 0, .ref 37, .int 3, .int 16, .int (-4), .int 0, .ref 38, .ref 39, .int 0, .ref 40, .int 0, .ref 41, .int 0, .null, .int 0, .null, .int 0, .null, .null, .null, .null, .null, .null, .int 0, .null, .null, .null, .null, .null, .null, .null, .null, .null]) rfl ?_
  refine b_eq rfl rfl ((ws_comm (Nat.ne_of_beq_eq_false rfl)).trans (congrArg (fun z => wset z 41 (ia 64 (fun _ => 0))) ((ws_comm (Nat.ne_of_beq_eq_false rfl)).trans (congrArg (fun z => wset z 40 (ia 64 (fun _ => 0))) ((ws_comm (Nat.ne_of_beq_eq_false rfl)).trans (congrArg (fun z => wset z 39 (ia 32 (fun _ => 0))) ((ws_comm (Nat.ne_of_beq_eq_false rfl)).trans (congrArg (fun z => wset z 38 (ia 32 (fun _ => 0))) ((ws_comm (Nat.ne_of_beq_eq_false rfl)).trans (congrArg (fun z => wset z 37 (ia 16384 (fun _ => 0))) ws_same)))))))))) ?_
  refine b_aload_n C dX6_init_71 rfl ?_
  refine b_bipush C dX6_init_72 (v := 64) (by decide) ?_
  refine b_newi C G dX6_init_74 ac_int (M := 64) rfl (Nat.le_of_ble_eq_true rfl) rfl (Nat.le_of_ble_eq_true rfl) (Nat.le_of_ble_eq_true rfl) (Nat.le_of_ble_eq_true rfl) (N1 := 43) (k1 := 7) (n1 := 33024) rfl rfl rfl ?_
  refine b_putR C IN dX6_init_76 frRX6_38 (Nat.le_of_ble_eq_true rfl) (ws_ne (Nat.ne_of_beq_eq_false rfl) (ws_ne (Nat.ne_of_beq_eq_false rfl) (ws_ne (Nat.ne_of_beq_eq_false rfl) (ws_ne (Nat.ne_of_beq_eq_false rfl) (ws_ne (Nat.ne_of_beq_eq_false rfl) (ws_ne (Nat.ne_of_beq_eq_false rfl) ws_eq)))))) (Nat.le_of_ble_eq_true rfl) (fs' := [.int 0, .int 0, .ref 36, .int 0, .ref 37, .int 3, .int 16, .int (-4), .int 0, .ref 38, .ref 39, .int 0, .ref 40, .int 0, .ref 41, .int 0, .ref 42, .int 0, .null, .int 0, .null, .null, .null, .null, .null, .null, .int 0, .null, .null, .null, .null, .null, .null, .null, .null, .null]) rfl ?_
  refine b_eq rfl rfl ((ws_comm (Nat.ne_of_beq_eq_false rfl)).trans (congrArg (fun z => wset z 42 (ia 64 (fun _ => 0))) ((ws_comm (Nat.ne_of_beq_eq_false rfl)).trans (congrArg (fun z => wset z 41 (ia 64 (fun _ => 0))) ((ws_comm (Nat.ne_of_beq_eq_false rfl)).trans (congrArg (fun z => wset z 40 (ia 64 (fun _ => 0))) ((ws_comm (Nat.ne_of_beq_eq_false rfl)).trans (congrArg (fun z => wset z 39 (ia 32 (fun _ => 0))) ((ws_comm (Nat.ne_of_beq_eq_false rfl)).trans (congrArg (fun z => wset z 38 (ia 32 (fun _ => 0))) ((ws_comm (Nat.ne_of_beq_eq_false rfl)).trans (congrArg (fun z => wset z 37 (ia 16384 (fun _ => 0))) ws_same)))))))))))) ?_
  refine b_aload_n C dX6_init_79 rfl ?_
  refine b_bipush C dX6_init_80 (v := 16) (by decide) ?_
  refine b_newi C G dX6_init_82 ac_int (M := 16) rfl (Nat.le_of_ble_eq_true rfl) rfl (Nat.le_of_ble_eq_true rfl) (Nat.le_of_ble_eq_true rfl) (Nat.le_of_ble_eq_true rfl) (N1 := 44) (k1 := 8) (n1 := 33040) rfl rfl rfl ?_
  refine b_putR C IN dX6_init_84 frRX6_41 (Nat.le_of_ble_eq_true rfl) (ws_ne (Nat.ne_of_beq_eq_false rfl) (ws_ne (Nat.ne_of_beq_eq_false rfl) (ws_ne (Nat.ne_of_beq_eq_false rfl) (ws_ne (Nat.ne_of_beq_eq_false rfl) (ws_ne (Nat.ne_of_beq_eq_false rfl) (ws_ne (Nat.ne_of_beq_eq_false rfl) (ws_ne (Nat.ne_of_beq_eq_false rfl) ws_eq))))))) (Nat.le_of_ble_eq_true rfl) (fs' := [.int 0, .int 0, .ref 36, .int 0, .ref 37, .int 3, .int 16, .int (-4), .int 0, .ref 38, .ref 39, .int 0, .ref 40, .int 0, .ref 41, .int 0, .ref 42, .int 0, .ref 43, .int 0, .null, .null, .null, .null, .null, .null, .int 0, .null, .null, .null, .null, .null, .null, .null, .null, .null]) rfl ?_
  refine b_eq rfl rfl ((ws_comm (Nat.ne_of_beq_eq_false rfl)).trans (congrArg (fun z => wset z 43 (ia 16 (fun _ => 0))) ((ws_comm (Nat.ne_of_beq_eq_false rfl)).trans (congrArg (fun z => wset z 42 (ia 64 (fun _ => 0))) ((ws_comm (Nat.ne_of_beq_eq_false rfl)).trans (congrArg (fun z => wset z 41 (ia 64 (fun _ => 0))) ((ws_comm (Nat.ne_of_beq_eq_false rfl)).trans (congrArg (fun z => wset z 40 (ia 64 (fun _ => 0))) ((ws_comm (Nat.ne_of_beq_eq_false rfl)).trans (congrArg (fun z => wset z 39 (ia 32 (fun _ => 0))) ((ws_comm (Nat.ne_of_beq_eq_false rfl)).trans (congrArg (fun z => wset z 38 (ia 32 (fun _ => 0))) ((ws_comm (Nat.ne_of_beq_eq_false rfl)).trans (congrArg (fun z => wset z 37 (ia 16384 (fun _ => 0))) ws_same)))))))))))))) ?_
  refine b_aload_n C dX6_init_87 rfl ?_
  refine b_sipush C dX6_init_88 (v := 16512) (by decide) ?_
  refine b_newi C G dX6_init_91 ac_int (M := 16512) rfl (Nat.le_of_ble_eq_true rfl) rfl (Nat.le_of_ble_eq_true rfl) (Nat.le_of_ble_eq_true rfl) (Nat.le_of_ble_eq_true rfl) (N1 := 45) (k1 := 9) (n1 := 49552) rfl rfl rfl ?_
  refine b_putR C IN dX6_init_93 frRX6_44 (Nat.le_of_ble_eq_true rfl) (ws_ne (Nat.ne_of_beq_eq_false rfl) (ws_ne (Nat.ne_of_beq_eq_false rfl) (ws_ne (Nat.ne_of_beq_eq_false rfl) (ws_ne (Nat.ne_of_beq_eq_false rfl) (ws_ne (Nat.ne_of_beq_eq_false rfl) (ws_ne (Nat.ne_of_beq_eq_false rfl) (ws_ne (Nat.ne_of_beq_eq_false rfl) (ws_ne (Nat.ne_of_beq_eq_false rfl) ws_eq)))))))) (Nat.le_of_ble_eq_true rfl) (fs' := [.int 0, .int 0, .ref 36, .int 0, .ref 37, .int 3, .int 16, .int (-4), .int 0, .ref 38, .ref 39, .int 0, .ref 40, .int 0, .ref 41, .int 0, .ref 42, .int 0, .ref 43, .int 0, .ref 44, .null, .null, .null, .null, .null, .int 0, .null, .null, .null, .null, .null, .null, .null, .null, .null]) rfl ?_
  refine b_eq rfl rfl ((ws_comm (Nat.ne_of_beq_eq_false rfl)).trans (congrArg (fun z => wset z 44 (ia 16512 (fun _ => 0))) ((ws_comm (Nat.ne_of_beq_eq_false rfl)).trans (congrArg (fun z => wset z 43 (ia 16 (fun _ => 0))) ((ws_comm (Nat.ne_of_beq_eq_false rfl)).trans (congrArg (fun z => wset z 42 (ia 64 (fun _ => 0))) ((ws_comm (Nat.ne_of_beq_eq_false rfl)).trans (congrArg (fun z => wset z 41 (ia 64 (fun _ => 0))) ((ws_comm (Nat.ne_of_beq_eq_false rfl)).trans (congrArg (fun z => wset z 40 (ia 64 (fun _ => 0))) ((ws_comm (Nat.ne_of_beq_eq_false rfl)).trans (congrArg (fun z => wset z 39 (ia 32 (fun _ => 0))) ((ws_comm (Nat.ne_of_beq_eq_false rfl)).trans (congrArg (fun z => wset z 38 (ia 32 (fun _ => 0))) ((ws_comm (Nat.ne_of_beq_eq_false rfl)).trans (congrArg (fun z => wset z 37 (ia 16384 (fun _ => 0))) ws_same)))))))))))))))) ?_
  refine b_aload_n C dX6_init_96 rfl ?_
  refine b_bipush C dX6_init_97 (v := 16) (by decide) ?_
  refine b_newi C G dX6_init_99 ac_int (M := 16) rfl (Nat.le_of_ble_eq_true rfl) rfl (Nat.le_of_ble_eq_true rfl) (Nat.le_of_ble_eq_true rfl) (Nat.le_of_ble_eq_true rfl) (N1 := 46) (k1 := 10) (n1 := 49568) rfl rfl rfl ?_
  refine b_putR C IN dX6_init_101 frRX6_47 (Nat.le_of_ble_eq_true rfl) (ws_ne (Nat.ne_of_beq_eq_false rfl) (ws_ne (Nat.ne_of_beq_eq_false rfl) (ws_ne (Nat.ne_of_beq_eq_false rfl) (ws_ne (Nat.ne_of_beq_eq_false rfl) (ws_ne (Nat.ne_of_beq_eq_false rfl) (ws_ne (Nat.ne_of_beq_eq_false rfl) (ws_ne (Nat.ne_of_beq_eq_false rfl) (ws_ne (Nat.ne_of_beq_eq_false rfl) (ws_ne (Nat.ne_of_beq_eq_false rfl) ws_eq))))))))) (Nat.le_of_ble_eq_true rfl) (fs' := [.int 0, .int 0, .ref 36, .int 0, .ref 37, .int 3, .int 16, .int (-4), .int 0, .ref 38, .ref 39, .int 0, .ref 40, .int 0, .ref 41, .int 0, .ref 42, .int 0, .ref 43, .int 0, .ref 44, .ref 45, .null, .null, .null, .null, .int 0, .null, .null, .null, .null, .null, .null, .null, .null, .null]) rfl ?_
  refine b_eq rfl rfl ((ws_comm (Nat.ne_of_beq_eq_false rfl)).trans (congrArg (fun z => wset z 45 (ia 16 (fun _ => 0))) ((ws_comm (Nat.ne_of_beq_eq_false rfl)).trans (congrArg (fun z => wset z 44 (ia 16512 (fun _ => 0))) ((ws_comm (Nat.ne_of_beq_eq_false rfl)).trans (congrArg (fun z => wset z 43 (ia 16 (fun _ => 0))) ((ws_comm (Nat.ne_of_beq_eq_false rfl)).trans (congrArg (fun z => wset z 42 (ia 64 (fun _ => 0))) ((ws_comm (Nat.ne_of_beq_eq_false rfl)).trans (congrArg (fun z => wset z 41 (ia 64 (fun _ => 0))) ((ws_comm (Nat.ne_of_beq_eq_false rfl)).trans (congrArg (fun z => wset z 40 (ia 64 (fun _ => 0))) ((ws_comm (Nat.ne_of_beq_eq_false rfl)).trans (congrArg (fun z => wset z 39 (ia 32 (fun _ => 0))) ((ws_comm (Nat.ne_of_beq_eq_false rfl)).trans (congrArg (fun z => wset z 38 (ia 32 (fun _ => 0))) ((ws_comm (Nat.ne_of_beq_eq_false rfl)).trans (congrArg (fun z => wset z 37 (ia 16384 (fun _ => 0))) ws_same)))))))))))))))))) ?_
  refine b_aload_n C dX6_init_104 rfl ?_
  refine b_iconst C dX6_init_105 (v := 4) (by decide) ?_
  refine b_newi C G dX6_init_106 ac_int (M := 4) rfl (Nat.le_of_ble_eq_true rfl) rfl (Nat.le_of_ble_eq_true rfl) (Nat.le_of_ble_eq_true rfl) (Nat.le_of_ble_eq_true rfl) (N1 := 47) (k1 := 11) (n1 := 49572) rfl rfl rfl ?_
  refine b_putR C IN dX6_init_108 frRX6_50 (Nat.le_of_ble_eq_true rfl) (ws_ne (Nat.ne_of_beq_eq_false rfl) (ws_ne (Nat.ne_of_beq_eq_false rfl) (ws_ne (Nat.ne_of_beq_eq_false rfl) (ws_ne (Nat.ne_of_beq_eq_false rfl) (ws_ne (Nat.ne_of_beq_eq_false rfl) (ws_ne (Nat.ne_of_beq_eq_false rfl) (ws_ne (Nat.ne_of_beq_eq_false rfl) (ws_ne (Nat.ne_of_beq_eq_false rfl) (ws_ne (Nat.ne_of_beq_eq_false rfl) (ws_ne (Nat.ne_of_beq_eq_false rfl) ws_eq)))))))))) (Nat.le_of_ble_eq_true rfl) (fs' := [.int 0, .int 0, .ref 36, .int 0, .ref 37, .int 3, .int 16, .int (-4), .int 0, .ref 38, .ref 39, .int 0, .ref 40, .int 0, .ref 41, .int 0, .ref 42, .int 0, .ref 43, .int 0, .ref 44, .ref 45, .ref 46, .null, .null, .null, .int 0, .null, .null, .null, .null, .null, .null, .null, .null, .null]) rfl ?_
  refine b_eq rfl rfl ((ws_comm (Nat.ne_of_beq_eq_false rfl)).trans (congrArg (fun z => wset z 46 (ia 4 (fun _ => 0))) ((ws_comm (Nat.ne_of_beq_eq_false rfl)).trans (congrArg (fun z => wset z 45 (ia 16 (fun _ => 0))) ((ws_comm (Nat.ne_of_beq_eq_false rfl)).trans (congrArg (fun z => wset z 44 (ia 16512 (fun _ => 0))) ((ws_comm (Nat.ne_of_beq_eq_false rfl)).trans (congrArg (fun z => wset z 43 (ia 16 (fun _ => 0))) ((ws_comm (Nat.ne_of_beq_eq_false rfl)).trans (congrArg (fun z => wset z 42 (ia 64 (fun _ => 0))) ((ws_comm (Nat.ne_of_beq_eq_false rfl)).trans (congrArg (fun z => wset z 41 (ia 64 (fun _ => 0))) ((ws_comm (Nat.ne_of_beq_eq_false rfl)).trans (congrArg (fun z => wset z 40 (ia 64 (fun _ => 0))) ((ws_comm (Nat.ne_of_beq_eq_false rfl)).trans (congrArg (fun z => wset z 39 (ia 32 (fun _ => 0))) ((ws_comm (Nat.ne_of_beq_eq_false rfl)).trans (congrArg (fun z => wset z 38 (ia 32 (fun _ => 0))) ((ws_comm (Nat.ne_of_beq_eq_false rfl)).trans (congrArg (fun z => wset z 37 (ia 16384 (fun _ => 0))) ws_same)))))))))))))))))))) ?_
  refine b_aload_n C dX6_init_111 rfl ?_
  refine b_bipush C dX6_init_112 (v := 64) (by decide) ?_
  refine b_newi C G dX6_init_114 ac_int (M := 64) rfl (Nat.le_of_ble_eq_true rfl) rfl (Nat.le_of_ble_eq_true rfl) (Nat.le_of_ble_eq_true rfl) (Nat.le_of_ble_eq_true rfl) (N1 := 48) (k1 := 12) (n1 := 49636) rfl rfl rfl ?_
  refine fill_47 C ws_eq ?_
  refine b_eq rfl rfl ws_same ?_
  refine b_putR C IN dX6_init_494 frRX6_117 (Nat.le_of_ble_eq_true rfl) (ws_ne (Nat.ne_of_beq_eq_false rfl) (ws_ne (Nat.ne_of_beq_eq_false rfl) (ws_ne (Nat.ne_of_beq_eq_false rfl) (ws_ne (Nat.ne_of_beq_eq_false rfl) (ws_ne (Nat.ne_of_beq_eq_false rfl) (ws_ne (Nat.ne_of_beq_eq_false rfl) (ws_ne (Nat.ne_of_beq_eq_false rfl) (ws_ne (Nat.ne_of_beq_eq_false rfl) (ws_ne (Nat.ne_of_beq_eq_false rfl) (ws_ne (Nat.ne_of_beq_eq_false rfl) (ws_ne (Nat.ne_of_beq_eq_false rfl) ws_eq))))))))))) (Nat.le_of_ble_eq_true rfl) (fs' := [.int 0, .int 0, .ref 36, .int 0, .ref 37, .int 3, .int 16, .int (-4), .int 0, .ref 38, .ref 39, .int 0, .ref 40, .int 0, .ref 41, .int 0, .ref 42, .int 0, .ref 43, .int 0, .ref 44, .ref 45, .ref 46, .ref 47, .null, .null, .int 0, .null, .null, .null, .null, .null, .null, .null, .null, .null]) rfl ?_
  refine b_eq rfl rfl ((ws_comm (Nat.ne_of_beq_eq_false rfl)).trans (congrArg (fun z => wset z 47 (ia 64 fsn0)) ((ws_comm (Nat.ne_of_beq_eq_false rfl)).trans (congrArg (fun z => wset z 46 (ia 4 (fun _ => 0))) ((ws_comm (Nat.ne_of_beq_eq_false rfl)).trans (congrArg (fun z => wset z 45 (ia 16 (fun _ => 0))) ((ws_comm (Nat.ne_of_beq_eq_false rfl)).trans (congrArg (fun z => wset z 44 (ia 16512 (fun _ => 0))) ((ws_comm (Nat.ne_of_beq_eq_false rfl)).trans (congrArg (fun z => wset z 43 (ia 16 (fun _ => 0))) ((ws_comm (Nat.ne_of_beq_eq_false rfl)).trans (congrArg (fun z => wset z 42 (ia 64 (fun _ => 0))) ((ws_comm (Nat.ne_of_beq_eq_false rfl)).trans (congrArg (fun z => wset z 41 (ia 64 (fun _ => 0))) ((ws_comm (Nat.ne_of_beq_eq_false rfl)).trans (congrArg (fun z => wset z 40 (ia 64 (fun _ => 0))) ((ws_comm (Nat.ne_of_beq_eq_false rfl)).trans (congrArg (fun z => wset z 39 (ia 32 (fun _ => 0))) ((ws_comm (Nat.ne_of_beq_eq_false rfl)).trans (congrArg (fun z => wset z 38 (ia 32 (fun _ => 0))) ((ws_comm (Nat.ne_of_beq_eq_false rfl)).trans (congrArg (fun z => wset z 37 (ia 16384 (fun _ => 0))) ws_same)))))))))))))))))))))) ?_
  refine b_aload_n C dX6_init_497 rfl ?_
  refine b_bipush C dX6_init_498 (v := 16) (by decide) ?_
  refine b_newi C G dX6_init_500 ac_int (M := 16) rfl (Nat.le_of_ble_eq_true rfl) rfl (Nat.le_of_ble_eq_true rfl) (Nat.le_of_ble_eq_true rfl) (Nat.le_of_ble_eq_true rfl) (N1 := 49) (k1 := 13) (n1 := 49652) rfl rfl rfl ?_
  refine fill_48 C ws_eq ?_
  refine b_eq rfl rfl ws_same ?_
  refine b_putR C IN dX6_init_590 frRX6_120 (Nat.le_of_ble_eq_true rfl) (ws_ne (Nat.ne_of_beq_eq_false rfl) (ws_ne (Nat.ne_of_beq_eq_false rfl) (ws_ne (Nat.ne_of_beq_eq_false rfl) (ws_ne (Nat.ne_of_beq_eq_false rfl) (ws_ne (Nat.ne_of_beq_eq_false rfl) (ws_ne (Nat.ne_of_beq_eq_false rfl) (ws_ne (Nat.ne_of_beq_eq_false rfl) (ws_ne (Nat.ne_of_beq_eq_false rfl) (ws_ne (Nat.ne_of_beq_eq_false rfl) (ws_ne (Nat.ne_of_beq_eq_false rfl) (ws_ne (Nat.ne_of_beq_eq_false rfl) (ws_ne (Nat.ne_of_beq_eq_false rfl) ws_eq)))))))))))) (Nat.le_of_ble_eq_true rfl) (fs' := [.int 0, .int 0, .ref 36, .int 0, .ref 37, .int 3, .int 16, .int (-4), .int 0, .ref 38, .ref 39, .int 0, .ref 40, .int 0, .ref 41, .int 0, .ref 42, .int 0, .ref 43, .int 0, .ref 44, .ref 45, .ref 46, .ref 47, .ref 48, .null, .int 0, .null, .null, .null, .null, .null, .null, .null, .null, .null]) rfl ?_
  refine b_eq rfl rfl ((ws_comm (Nat.ne_of_beq_eq_false rfl)).trans (congrArg (fun z => wset z 48 (ia 16 ftn0)) ((ws_comm (Nat.ne_of_beq_eq_false rfl)).trans (congrArg (fun z => wset z 47 (ia 64 fsn0)) ((ws_comm (Nat.ne_of_beq_eq_false rfl)).trans (congrArg (fun z => wset z 46 (ia 4 (fun _ => 0))) ((ws_comm (Nat.ne_of_beq_eq_false rfl)).trans (congrArg (fun z => wset z 45 (ia 16 (fun _ => 0))) ((ws_comm (Nat.ne_of_beq_eq_false rfl)).trans (congrArg (fun z => wset z 44 (ia 16512 (fun _ => 0))) ((ws_comm (Nat.ne_of_beq_eq_false rfl)).trans (congrArg (fun z => wset z 43 (ia 16 (fun _ => 0))) ((ws_comm (Nat.ne_of_beq_eq_false rfl)).trans (congrArg (fun z => wset z 42 (ia 64 (fun _ => 0))) ((ws_comm (Nat.ne_of_beq_eq_false rfl)).trans (congrArg (fun z => wset z 41 (ia 64 (fun _ => 0))) ((ws_comm (Nat.ne_of_beq_eq_false rfl)).trans (congrArg (fun z => wset z 40 (ia 64 (fun _ => 0))) ((ws_comm (Nat.ne_of_beq_eq_false rfl)).trans (congrArg (fun z => wset z 39 (ia 32 (fun _ => 0))) ((ws_comm (Nat.ne_of_beq_eq_false rfl)).trans (congrArg (fun z => wset z 38 (ia 32 (fun _ => 0))) ((ws_comm (Nat.ne_of_beq_eq_false rfl)).trans (congrArg (fun z => wset z 37 (ia 16384 (fun _ => 0))) ws_same)))))))))))))))))))))))) ?_
  refine b_aload_n C dX6_init_593 rfl ?_
  refine b_bipush C dX6_init_594 (v := 32) (by decide) ?_
  refine b_newi C G dX6_init_596 ac_int (M := 32) rfl (Nat.le_of_ble_eq_true rfl) rfl (Nat.le_of_ble_eq_true rfl) (Nat.le_of_ble_eq_true rfl) (Nat.le_of_ble_eq_true rfl) (N1 := 50) (k1 := 14) (n1 := 49684) rfl rfl rfl ?_
  refine fill_49 C ws_eq ?_
  refine b_eq rfl rfl ws_same ?_
  refine b_putR C IN dX6_init_790 frRX6_123 (Nat.le_of_ble_eq_true rfl) (ws_ne (Nat.ne_of_beq_eq_false rfl) (ws_ne (Nat.ne_of_beq_eq_false rfl) (ws_ne (Nat.ne_of_beq_eq_false rfl) (ws_ne (Nat.ne_of_beq_eq_false rfl) (ws_ne (Nat.ne_of_beq_eq_false rfl) (ws_ne (Nat.ne_of_beq_eq_false rfl) (ws_ne (Nat.ne_of_beq_eq_false rfl) (ws_ne (Nat.ne_of_beq_eq_false rfl) (ws_ne (Nat.ne_of_beq_eq_false rfl) (ws_ne (Nat.ne_of_beq_eq_false rfl) (ws_ne (Nat.ne_of_beq_eq_false rfl) (ws_ne (Nat.ne_of_beq_eq_false rfl) (ws_ne (Nat.ne_of_beq_eq_false rfl) ws_eq))))))))))))) (Nat.le_of_ble_eq_true rfl) (fs' := [.int 0, .int 0, .ref 36, .int 0, .ref 37, .int 3, .int 16, .int (-4), .int 0, .ref 38, .ref 39, .int 0, .ref 40, .int 0, .ref 41, .int 0, .ref 42, .int 0, .ref 43, .int 0, .ref 44, .ref 45, .ref 46, .ref 47, .ref 48, .ref 49, .int 0, .null, .null, .null, .null, .null, .null, .null, .null, .null]) rfl ?_
  refine b_eq rfl rfl ((ws_comm (Nat.ne_of_beq_eq_false rfl)).trans (congrArg (fun z => wset z 49 (ia 32 fpd0)) ((ws_comm (Nat.ne_of_beq_eq_false rfl)).trans (congrArg (fun z => wset z 48 (ia 16 ftn0)) ((ws_comm (Nat.ne_of_beq_eq_false rfl)).trans (congrArg (fun z => wset z 47 (ia 64 fsn0)) ((ws_comm (Nat.ne_of_beq_eq_false rfl)).trans (congrArg (fun z => wset z 46 (ia 4 (fun _ => 0))) ((ws_comm (Nat.ne_of_beq_eq_false rfl)).trans (congrArg (fun z => wset z 45 (ia 16 (fun _ => 0))) ((ws_comm (Nat.ne_of_beq_eq_false rfl)).trans (congrArg (fun z => wset z 44 (ia 16512 (fun _ => 0))) ((ws_comm (Nat.ne_of_beq_eq_false rfl)).trans (congrArg (fun z => wset z 43 (ia 16 (fun _ => 0))) ((ws_comm (Nat.ne_of_beq_eq_false rfl)).trans (congrArg (fun z => wset z 42 (ia 64 (fun _ => 0))) ((ws_comm (Nat.ne_of_beq_eq_false rfl)).trans (congrArg (fun z => wset z 41 (ia 64 (fun _ => 0))) ((ws_comm (Nat.ne_of_beq_eq_false rfl)).trans (congrArg (fun z => wset z 40 (ia 64 (fun _ => 0))) ((ws_comm (Nat.ne_of_beq_eq_false rfl)).trans (congrArg (fun z => wset z 39 (ia 32 (fun _ => 0))) ((ws_comm (Nat.ne_of_beq_eq_false rfl)).trans (congrArg (fun z => wset z 38 (ia 32 (fun _ => 0))) ((ws_comm (Nat.ne_of_beq_eq_false rfl)).trans (congrArg (fun z => wset z 37 (ia 16384 (fun _ => 0))) ws_same)))))))))))))))))))))))))) ?_
  refine b_aload_n C dX6_init_793 rfl ?_
  refine b_bipush C dX6_init_794 (v := 16) (by decide) ?_
  refine b_newi C G dX6_init_796 ac_int (M := 16) rfl (Nat.le_of_ble_eq_true rfl) rfl (Nat.le_of_ble_eq_true rfl) (Nat.le_of_ble_eq_true rfl) (Nat.le_of_ble_eq_true rfl) (N1 := 51) (k1 := 15) (n1 := 49700) rfl rfl rfl ?_
  refine b_putR C IN dX6_init_798 frRX6_126 (Nat.le_of_ble_eq_true rfl) (ws_ne (Nat.ne_of_beq_eq_false rfl) (ws_ne (Nat.ne_of_beq_eq_false rfl) (ws_ne (Nat.ne_of_beq_eq_false rfl) (ws_ne (Nat.ne_of_beq_eq_false rfl) (ws_ne (Nat.ne_of_beq_eq_false rfl) (ws_ne (Nat.ne_of_beq_eq_false rfl) (ws_ne (Nat.ne_of_beq_eq_false rfl) (ws_ne (Nat.ne_of_beq_eq_false rfl) (ws_ne (Nat.ne_of_beq_eq_false rfl) (ws_ne (Nat.ne_of_beq_eq_false rfl) (ws_ne (Nat.ne_of_beq_eq_false rfl) (ws_ne (Nat.ne_of_beq_eq_false rfl) (ws_ne (Nat.ne_of_beq_eq_false rfl) (ws_ne (Nat.ne_of_beq_eq_false rfl) ws_eq)))))))))))))) (Nat.le_of_ble_eq_true rfl) (fs' := [.int 0, .int 0, .ref 36, .int 0, .ref 37, .int 3, .int 16, .int (-4), .int 0, .ref 38, .ref 39, .int 0, .ref 40, .int 0, .ref 41, .int 0, .ref 42, .int 0, .ref 43, .int 0, .ref 44, .ref 45, .ref 46, .ref 47, .ref 48, .ref 49, .int 0, .ref 50, .null, .null, .null, .null, .null, .null, .null, .null]) rfl ?_
  refine b_eq rfl rfl ((ws_comm (Nat.ne_of_beq_eq_false rfl)).trans (congrArg (fun z => wset z 50 (ia 16 (fun _ => 0))) ((ws_comm (Nat.ne_of_beq_eq_false rfl)).trans (congrArg (fun z => wset z 49 (ia 32 fpd0)) ((ws_comm (Nat.ne_of_beq_eq_false rfl)).trans (congrArg (fun z => wset z 48 (ia 16 ftn0)) ((ws_comm (Nat.ne_of_beq_eq_false rfl)).trans (congrArg (fun z => wset z 47 (ia 64 fsn0)) ((ws_comm (Nat.ne_of_beq_eq_false rfl)).trans (congrArg (fun z => wset z 46 (ia 4 (fun _ => 0))) ((ws_comm (Nat.ne_of_beq_eq_false rfl)).trans (congrArg (fun z => wset z 45 (ia 16 (fun _ => 0))) ((ws_comm (Nat.ne_of_beq_eq_false rfl)).trans (congrArg (fun z => wset z 44 (ia 16512 (fun _ => 0))) ((ws_comm (Nat.ne_of_beq_eq_false rfl)).trans (congrArg (fun z => wset z 43 (ia 16 (fun _ => 0))) ((ws_comm (Nat.ne_of_beq_eq_false rfl)).trans (congrArg (fun z => wset z 42 (ia 64 (fun _ => 0))) ((ws_comm (Nat.ne_of_beq_eq_false rfl)).trans (congrArg (fun z => wset z 41 (ia 64 (fun _ => 0))) ((ws_comm (Nat.ne_of_beq_eq_false rfl)).trans (congrArg (fun z => wset z 40 (ia 64 (fun _ => 0))) ((ws_comm (Nat.ne_of_beq_eq_false rfl)).trans (congrArg (fun z => wset z 39 (ia 32 (fun _ => 0))) ((ws_comm (Nat.ne_of_beq_eq_false rfl)).trans (congrArg (fun z => wset z 38 (ia 32 (fun _ => 0))) ((ws_comm (Nat.ne_of_beq_eq_false rfl)).trans (congrArg (fun z => wset z 37 (ia 16384 (fun _ => 0))) ws_same)))))))))))))))))))))))))))) ?_
  refine b_aload_n C dX6_init_801 rfl ?_
  refine b_sipush C dX6_init_802 (v := 256) (by decide) ?_
  refine b_newi C G dX6_init_805 ac_int (M := 256) rfl (Nat.le_of_ble_eq_true rfl) rfl (Nat.le_of_ble_eq_true rfl) (Nat.le_of_ble_eq_true rfl) (Nat.le_of_ble_eq_true rfl) (N1 := 52) (k1 := 16) (n1 := 49956) rfl rfl rfl ?_
  refine b_putR C IN dX6_init_807 frRX6_129 (Nat.le_of_ble_eq_true rfl) (ws_ne (Nat.ne_of_beq_eq_false rfl) (ws_ne (Nat.ne_of_beq_eq_false rfl) (ws_ne (Nat.ne_of_beq_eq_false rfl) (ws_ne (Nat.ne_of_beq_eq_false rfl) (ws_ne (Nat.ne_of_beq_eq_false rfl) (ws_ne (Nat.ne_of_beq_eq_false rfl) (ws_ne (Nat.ne_of_beq_eq_false rfl) (ws_ne (Nat.ne_of_beq_eq_false rfl) (ws_ne (Nat.ne_of_beq_eq_false rfl) (ws_ne (Nat.ne_of_beq_eq_false rfl) (ws_ne (Nat.ne_of_beq_eq_false rfl) (ws_ne (Nat.ne_of_beq_eq_false rfl) (ws_ne (Nat.ne_of_beq_eq_false rfl) (ws_ne (Nat.ne_of_beq_eq_false rfl) (ws_ne (Nat.ne_of_beq_eq_false rfl) ws_eq))))))))))))))) (Nat.le_of_ble_eq_true rfl) (fs' := [.int 0, .int 0, .ref 36, .int 0, .ref 37, .int 3, .int 16, .int (-4), .int 0, .ref 38, .ref 39, .int 0, .ref 40, .int 0, .ref 41, .int 0, .ref 42, .int 0, .ref 43, .int 0, .ref 44, .ref 45, .ref 46, .ref 47, .ref 48, .ref 49, .int 0, .ref 50, .ref 51, .null, .null, .null, .null, .null, .null, .null]) rfl ?_
  refine b_eq rfl rfl ((ws_comm (Nat.ne_of_beq_eq_false rfl)).trans (congrArg (fun z => wset z 51 (ia 256 (fun _ => 0))) ((ws_comm (Nat.ne_of_beq_eq_false rfl)).trans (congrArg (fun z => wset z 50 (ia 16 (fun _ => 0))) ((ws_comm (Nat.ne_of_beq_eq_false rfl)).trans (congrArg (fun z => wset z 49 (ia 32 fpd0)) ((ws_comm (Nat.ne_of_beq_eq_false rfl)).trans (congrArg (fun z => wset z 48 (ia 16 ftn0)) ((ws_comm (Nat.ne_of_beq_eq_false rfl)).trans (congrArg (fun z => wset z 47 (ia 64 fsn0)) ((ws_comm (Nat.ne_of_beq_eq_false rfl)).trans (congrArg (fun z => wset z 46 (ia 4 (fun _ => 0))) ((ws_comm (Nat.ne_of_beq_eq_false rfl)).trans (congrArg (fun z => wset z 45 (ia 16 (fun _ => 0))) ((ws_comm (Nat.ne_of_beq_eq_false rfl)).trans (congrArg (fun z => wset z 44 (ia 16512 (fun _ => 0))) ((ws_comm (Nat.ne_of_beq_eq_false rfl)).trans (congrArg (fun z => wset z 43 (ia 16 (fun _ => 0))) ((ws_comm (Nat.ne_of_beq_eq_false rfl)).trans (congrArg (fun z => wset z 42 (ia 64 (fun _ => 0))) ((ws_comm (Nat.ne_of_beq_eq_false rfl)).trans (congrArg (fun z => wset z 41 (ia 64 (fun _ => 0))) ((ws_comm (Nat.ne_of_beq_eq_false rfl)).trans (congrArg (fun z => wset z 40 (ia 64 (fun _ => 0))) ((ws_comm (Nat.ne_of_beq_eq_false rfl)).trans (congrArg (fun z => wset z 39 (ia 32 (fun _ => 0))) ((ws_comm (Nat.ne_of_beq_eq_false rfl)).trans (congrArg (fun z => wset z 38 (ia 32 (fun _ => 0))) ((ws_comm (Nat.ne_of_beq_eq_false rfl)).trans (congrArg (fun z => wset z 37 (ia 16384 (fun _ => 0))) ws_same)))))))))))))))))))))))))))))) ?_
  refine b_aload_n C dX6_init_810 rfl ?_
  refine b_bipush C dX6_init_811 (v := 32) (by decide) ?_
  refine b_newi C G dX6_init_813 ac_int (M := 32) rfl (Nat.le_of_ble_eq_true rfl) rfl (Nat.le_of_ble_eq_true rfl) (Nat.le_of_ble_eq_true rfl) (Nat.le_of_ble_eq_true rfl) (N1 := 53) (k1 := 17) (n1 := 49988) rfl rfl rfl ?_
  refine b_putR C IN dX6_init_815 frRX6_132 (Nat.le_of_ble_eq_true rfl) (ws_ne (Nat.ne_of_beq_eq_false rfl) (ws_ne (Nat.ne_of_beq_eq_false rfl) (ws_ne (Nat.ne_of_beq_eq_false rfl) (ws_ne (Nat.ne_of_beq_eq_false rfl) (ws_ne (Nat.ne_of_beq_eq_false rfl) (ws_ne (Nat.ne_of_beq_eq_false rfl) (ws_ne (Nat.ne_of_beq_eq_false rfl) (ws_ne (Nat.ne_of_beq_eq_false rfl) (ws_ne (Nat.ne_of_beq_eq_false rfl) (ws_ne (Nat.ne_of_beq_eq_false rfl) (ws_ne (Nat.ne_of_beq_eq_false rfl) (ws_ne (Nat.ne_of_beq_eq_false rfl) (ws_ne (Nat.ne_of_beq_eq_false rfl) (ws_ne (Nat.ne_of_beq_eq_false rfl) (ws_ne (Nat.ne_of_beq_eq_false rfl) (ws_ne (Nat.ne_of_beq_eq_false rfl) ws_eq)))))))))))))))) (Nat.le_of_ble_eq_true rfl) (fs' := [.int 0, .int 0, .ref 36, .int 0, .ref 37, .int 3, .int 16, .int (-4), .int 0, .ref 38, .ref 39, .int 0, .ref 40, .int 0, .ref 41, .int 0, .ref 42, .int 0, .ref 43, .int 0, .ref 44, .ref 45, .ref 46, .ref 47, .ref 48, .ref 49, .int 0, .ref 50, .ref 51, .ref 52, .null, .null, .null, .null, .null, .null]) rfl ?_
  refine b_eq rfl rfl ((ws_comm (Nat.ne_of_beq_eq_false rfl)).trans (congrArg (fun z => wset z 52 (ia 32 (fun _ => 0))) ((ws_comm (Nat.ne_of_beq_eq_false rfl)).trans (congrArg (fun z => wset z 51 (ia 256 (fun _ => 0))) ((ws_comm (Nat.ne_of_beq_eq_false rfl)).trans (congrArg (fun z => wset z 50 (ia 16 (fun _ => 0))) ((ws_comm (Nat.ne_of_beq_eq_false rfl)).trans (congrArg (fun z => wset z 49 (ia 32 fpd0)) ((ws_comm (Nat.ne_of_beq_eq_false rfl)).trans (congrArg (fun z => wset z 48 (ia 16 ftn0)) ((ws_comm (Nat.ne_of_beq_eq_false rfl)).trans (congrArg (fun z => wset z 47 (ia 64 fsn0)) ((ws_comm (Nat.ne_of_beq_eq_false rfl)).trans (congrArg (fun z => wset z 46 (ia 4 (fun _ => 0))) ((ws_comm (Nat.ne_of_beq_eq_false rfl)).trans (congrArg (fun z => wset z 45 (ia 16 (fun _ => 0))) ((ws_comm (Nat.ne_of_beq_eq_false rfl)).trans (congrArg (fun z => wset z 44 (ia 16512 (fun _ => 0))) ((ws_comm (Nat.ne_of_beq_eq_false rfl)).trans (congrArg (fun z => wset z 43 (ia 16 (fun _ => 0))) ((ws_comm (Nat.ne_of_beq_eq_false rfl)).trans (congrArg (fun z => wset z 42 (ia 64 (fun _ => 0))) ((ws_comm (Nat.ne_of_beq_eq_false rfl)).trans (congrArg (fun z => wset z 41 (ia 64 (fun _ => 0))) ((ws_comm (Nat.ne_of_beq_eq_false rfl)).trans (congrArg (fun z => wset z 40 (ia 64 (fun _ => 0))) ((ws_comm (Nat.ne_of_beq_eq_false rfl)).trans (congrArg (fun z => wset z 39 (ia 32 (fun _ => 0))) ((ws_comm (Nat.ne_of_beq_eq_false rfl)).trans (congrArg (fun z => wset z 38 (ia 32 (fun _ => 0))) ((ws_comm (Nat.ne_of_beq_eq_false rfl)).trans (congrArg (fun z => wset z 37 (ia 16384 (fun _ => 0))) ws_same)))))))))))))))))))))))))))))))) ?_
  refine b_aload_n C dX6_init_818 rfl ?_
  refine b_bipush C dX6_init_819 (v := 32) (by decide) ?_
  refine b_newi C G dX6_init_821 ac_int (M := 32) rfl (Nat.le_of_ble_eq_true rfl) rfl (Nat.le_of_ble_eq_true rfl) (Nat.le_of_ble_eq_true rfl) (Nat.le_of_ble_eq_true rfl) (N1 := 54) (k1 := 18) (n1 := 50020) rfl rfl rfl ?_
  refine b_putR C IN dX6_init_823 frRX6_135 (Nat.le_of_ble_eq_true rfl) (ws_ne (Nat.ne_of_beq_eq_false rfl) (ws_ne (Nat.ne_of_beq_eq_false rfl) (ws_ne (Nat.ne_of_beq_eq_false rfl) (ws_ne (Nat.ne_of_beq_eq_false rfl) (ws_ne (Nat.ne_of_beq_eq_false rfl) (ws_ne (Nat.ne_of_beq_eq_false rfl) (ws_ne (Nat.ne_of_beq_eq_false rfl) (ws_ne (Nat.ne_of_beq_eq_false rfl) (ws_ne (Nat.ne_of_beq_eq_false rfl) (ws_ne (Nat.ne_of_beq_eq_false rfl) (ws_ne (Nat.ne_of_beq_eq_false rfl) (ws_ne (Nat.ne_of_beq_eq_false rfl) (ws_ne (Nat.ne_of_beq_eq_false rfl) (ws_ne (Nat.ne_of_beq_eq_false rfl) (ws_ne (Nat.ne_of_beq_eq_false rfl) (ws_ne (Nat.ne_of_beq_eq_false rfl) (ws_ne (Nat.ne_of_beq_eq_false rfl) ws_eq))))))))))))))))) (Nat.le_of_ble_eq_true rfl) (fs' := [.int 0, .int 0, .ref 36, .int 0, .ref 37, .int 3, .int 16, .int (-4), .int 0, .ref 38, .ref 39, .int 0, .ref 40, .int 0, .ref 41, .int 0, .ref 42, .int 0, .ref 43, .int 0, .ref 44, .ref 45, .ref 46, .ref 47, .ref 48, .ref 49, .int 0, .ref 50, .ref 51, .ref 52, .ref 53, .null, .null, .null, .null, .null]) rfl ?_
  refine b_eq rfl rfl ((ws_comm (Nat.ne_of_beq_eq_false rfl)).trans (congrArg (fun z => wset z 53 (ia 32 (fun _ => 0))) ((ws_comm (Nat.ne_of_beq_eq_false rfl)).trans (congrArg (fun z => wset z 52 (ia 32 (fun _ => 0))) ((ws_comm (Nat.ne_of_beq_eq_false rfl)).trans (congrArg (fun z => wset z 51 (ia 256 (fun _ => 0))) ((ws_comm (Nat.ne_of_beq_eq_false rfl)).trans (congrArg (fun z => wset z 50 (ia 16 (fun _ => 0))) ((ws_comm (Nat.ne_of_beq_eq_false rfl)).trans (congrArg (fun z => wset z 49 (ia 32 fpd0)) ((ws_comm (Nat.ne_of_beq_eq_false rfl)).trans (congrArg (fun z => wset z 48 (ia 16 ftn0)) ((ws_comm (Nat.ne_of_beq_eq_false rfl)).trans (congrArg (fun z => wset z 47 (ia 64 fsn0)) ((ws_comm (Nat.ne_of_beq_eq_false rfl)).trans (congrArg (fun z => wset z 46 (ia 4 (fun _ => 0))) ((ws_comm (Nat.ne_of_beq_eq_false rfl)).trans (congrArg (fun z => wset z 45 (ia 16 (fun _ => 0))) ((ws_comm (Nat.ne_of_beq_eq_false rfl)).trans (congrArg (fun z => wset z 44 (ia 16512 (fun _ => 0))) ((ws_comm (Nat.ne_of_beq_eq_false rfl)).trans (congrArg (fun z => wset z 43 (ia 16 (fun _ => 0))) ((ws_comm (Nat.ne_of_beq_eq_false rfl)).trans (congrArg (fun z => wset z 42 (ia 64 (fun _ => 0))) ((ws_comm (Nat.ne_of_beq_eq_false rfl)).trans (congrArg (fun z => wset z 41 (ia 64 (fun _ => 0))) ((ws_comm (Nat.ne_of_beq_eq_false rfl)).trans (congrArg (fun z => wset z 40 (ia 64 (fun _ => 0))) ((ws_comm (Nat.ne_of_beq_eq_false rfl)).trans (congrArg (fun z => wset z 39 (ia 32 (fun _ => 0))) ((ws_comm (Nat.ne_of_beq_eq_false rfl)).trans (congrArg (fun z => wset z 38 (ia 32 (fun _ => 0))) ((ws_comm (Nat.ne_of_beq_eq_false rfl)).trans (congrArg (fun z => wset z 37 (ia 16384 (fun _ => 0))) ws_same)))))))))))))))))))))))))))))))))) ?_
  refine b_aload_n C dX6_init_826 rfl ?_
  refine b_sipush C dX6_init_827 (v := 176) (by decide) ?_
  refine b_newi C G dX6_init_830 ac_int (M := 176) rfl (Nat.le_of_ble_eq_true rfl) rfl (Nat.le_of_ble_eq_true rfl) (Nat.le_of_ble_eq_true rfl) (Nat.le_of_ble_eq_true rfl) (N1 := 55) (k1 := 19) (n1 := 50196) rfl rfl rfl ?_
  refine b_putR C IN dX6_init_832 frRX6_138 (Nat.le_of_ble_eq_true rfl) (ws_ne (Nat.ne_of_beq_eq_false rfl) (ws_ne (Nat.ne_of_beq_eq_false rfl) (ws_ne (Nat.ne_of_beq_eq_false rfl) (ws_ne (Nat.ne_of_beq_eq_false rfl) (ws_ne (Nat.ne_of_beq_eq_false rfl) (ws_ne (Nat.ne_of_beq_eq_false rfl) (ws_ne (Nat.ne_of_beq_eq_false rfl) (ws_ne (Nat.ne_of_beq_eq_false rfl) (ws_ne (Nat.ne_of_beq_eq_false rfl) (ws_ne (Nat.ne_of_beq_eq_false rfl) (ws_ne (Nat.ne_of_beq_eq_false rfl) (ws_ne (Nat.ne_of_beq_eq_false rfl) (ws_ne (Nat.ne_of_beq_eq_false rfl) (ws_ne (Nat.ne_of_beq_eq_false rfl) (ws_ne (Nat.ne_of_beq_eq_false rfl) (ws_ne (Nat.ne_of_beq_eq_false rfl) (ws_ne (Nat.ne_of_beq_eq_false rfl) (ws_ne (Nat.ne_of_beq_eq_false rfl) ws_eq)))))))))))))))))) (Nat.le_of_ble_eq_true rfl) (fs' := [.int 0, .int 0, .ref 36, .int 0, .ref 37, .int 3, .int 16, .int (-4), .int 0, .ref 38, .ref 39, .int 0, .ref 40, .int 0, .ref 41, .int 0, .ref 42, .int 0, .ref 43, .int 0, .ref 44, .ref 45, .ref 46, .ref 47, .ref 48, .ref 49, .int 0, .ref 50, .ref 51, .ref 52, .ref 53, .ref 54, .null, .null, .null, .null]) rfl ?_
  refine b_eq rfl rfl ((ws_comm (Nat.ne_of_beq_eq_false rfl)).trans (congrArg (fun z => wset z 54 (ia 176 (fun _ => 0))) ((ws_comm (Nat.ne_of_beq_eq_false rfl)).trans (congrArg (fun z => wset z 53 (ia 32 (fun _ => 0))) ((ws_comm (Nat.ne_of_beq_eq_false rfl)).trans (congrArg (fun z => wset z 52 (ia 32 (fun _ => 0))) ((ws_comm (Nat.ne_of_beq_eq_false rfl)).trans (congrArg (fun z => wset z 51 (ia 256 (fun _ => 0))) ((ws_comm (Nat.ne_of_beq_eq_false rfl)).trans (congrArg (fun z => wset z 50 (ia 16 (fun _ => 0))) ((ws_comm (Nat.ne_of_beq_eq_false rfl)).trans (congrArg (fun z => wset z 49 (ia 32 fpd0)) ((ws_comm (Nat.ne_of_beq_eq_false rfl)).trans (congrArg (fun z => wset z 48 (ia 16 ftn0)) ((ws_comm (Nat.ne_of_beq_eq_false rfl)).trans (congrArg (fun z => wset z 47 (ia 64 fsn0)) ((ws_comm (Nat.ne_of_beq_eq_false rfl)).trans (congrArg (fun z => wset z 46 (ia 4 (fun _ => 0))) ((ws_comm (Nat.ne_of_beq_eq_false rfl)).trans (congrArg (fun z => wset z 45 (ia 16 (fun _ => 0))) ((ws_comm (Nat.ne_of_beq_eq_false rfl)).trans (congrArg (fun z => wset z 44 (ia 16512 (fun _ => 0))) ((ws_comm (Nat.ne_of_beq_eq_false rfl)).trans (congrArg (fun z => wset z 43 (ia 16 (fun _ => 0))) ((ws_comm (Nat.ne_of_beq_eq_false rfl)).trans (congrArg (fun z => wset z 42 (ia 64 (fun _ => 0))) ((ws_comm (Nat.ne_of_beq_eq_false rfl)).trans (congrArg (fun z => wset z 41 (ia 64 (fun _ => 0))) ((ws_comm (Nat.ne_of_beq_eq_false rfl)).trans (congrArg (fun z => wset z 40 (ia 64 (fun _ => 0))) ((ws_comm (Nat.ne_of_beq_eq_false rfl)).trans (congrArg (fun z => wset z 39 (ia 32 (fun _ => 0))) ((ws_comm (Nat.ne_of_beq_eq_false rfl)).trans (congrArg (fun z => wset z 38 (ia 32 (fun _ => 0))) ((ws_comm (Nat.ne_of_beq_eq_false rfl)).trans (congrArg (fun z => wset z 37 (ia 16384 (fun _ => 0))) ws_same)))))))))))))))))))))))))))))))))))) ?_
  refine b_aload_n C dX6_init_835 rfl ?_
  refine b_bipush C dX6_init_836 (v := 16) (by decide) ?_
  refine b_newi C G dX6_init_838 ac_int (M := 16) rfl (Nat.le_of_ble_eq_true rfl) rfl (Nat.le_of_ble_eq_true rfl) (Nat.le_of_ble_eq_true rfl) (Nat.le_of_ble_eq_true rfl) (N1 := 56) (k1 := 20) (n1 := 50212) rfl rfl rfl ?_
  refine b_putR C IN dX6_init_840 frRX6_141 (Nat.le_of_ble_eq_true rfl) (ws_ne (Nat.ne_of_beq_eq_false rfl) (ws_ne (Nat.ne_of_beq_eq_false rfl) (ws_ne (Nat.ne_of_beq_eq_false rfl) (ws_ne (Nat.ne_of_beq_eq_false rfl) (ws_ne (Nat.ne_of_beq_eq_false rfl) (ws_ne (Nat.ne_of_beq_eq_false rfl) (ws_ne (Nat.ne_of_beq_eq_false rfl) (ws_ne (Nat.ne_of_beq_eq_false rfl) (ws_ne (Nat.ne_of_beq_eq_false rfl) (ws_ne (Nat.ne_of_beq_eq_false rfl) (ws_ne (Nat.ne_of_beq_eq_false rfl) (ws_ne (Nat.ne_of_beq_eq_false rfl) (ws_ne (Nat.ne_of_beq_eq_false rfl) (ws_ne (Nat.ne_of_beq_eq_false rfl) (ws_ne (Nat.ne_of_beq_eq_false rfl) (ws_ne (Nat.ne_of_beq_eq_false rfl) (ws_ne (Nat.ne_of_beq_eq_false rfl) (ws_ne (Nat.ne_of_beq_eq_false rfl) (ws_ne (Nat.ne_of_beq_eq_false rfl) ws_eq))))))))))))))))))) (Nat.le_of_ble_eq_true rfl) (fs' := [.int 0, .int 0, .ref 36, .int 0, .ref 37, .int 3, .int 16, .int (-4), .int 0, .ref 38, .ref 39, .int 0, .ref 40, .int 0, .ref 41, .int 0, .ref 42, .int 0, .ref 43, .int 0, .ref 44, .ref 45, .ref 46, .ref 47, .ref 48, .ref 49, .int 0, .ref 50, .ref 51, .ref 52, .ref 53, .ref 54, .ref 55, .null, .null, .null]) rfl ?_
  refine b_eq rfl rfl ((ws_comm (Nat.ne_of_beq_eq_false rfl)).trans (congrArg (fun z => wset z 55 (ia 16 (fun _ => 0))) ((ws_comm (Nat.ne_of_beq_eq_false rfl)).trans (congrArg (fun z => wset z 54 (ia 176 (fun _ => 0))) ((ws_comm (Nat.ne_of_beq_eq_false rfl)).trans (congrArg (fun z => wset z 53 (ia 32 (fun _ => 0))) ((ws_comm (Nat.ne_of_beq_eq_false rfl)).trans (congrArg (fun z => wset z 52 (ia 32 (fun _ => 0))) ((ws_comm (Nat.ne_of_beq_eq_false rfl)).trans (congrArg (fun z => wset z 51 (ia 256 (fun _ => 0))) ((ws_comm (Nat.ne_of_beq_eq_false rfl)).trans (congrArg (fun z => wset z 50 (ia 16 (fun _ => 0))) ((ws_comm (Nat.ne_of_beq_eq_false rfl)).trans (congrArg (fun z => wset z 49 (ia 32 fpd0)) ((ws_comm (Nat.ne_of_beq_eq_false rfl)).trans (congrArg (fun z => wset z 48 (ia 16 ftn0)) ((ws_comm (Nat.ne_of_beq_eq_false rfl)).trans (congrArg (fun z => wset z 47 (ia 64 fsn0)) ((ws_comm (Nat.ne_of_beq_eq_false rfl)).trans (congrArg (fun z => wset z 46 (ia 4 (fun _ => 0))) ((ws_comm (Nat.ne_of_beq_eq_false rfl)).trans (congrArg (fun z => wset z 45 (ia 16 (fun _ => 0))) ((ws_comm (Nat.ne_of_beq_eq_false rfl)).trans (congrArg (fun z => wset z 44 (ia 16512 (fun _ => 0))) ((ws_comm (Nat.ne_of_beq_eq_false rfl)).trans (congrArg (fun z => wset z 43 (ia 16 (fun _ => 0))) ((ws_comm (Nat.ne_of_beq_eq_false rfl)).trans (congrArg (fun z => wset z 42 (ia 64 (fun _ => 0))) ((ws_comm (Nat.ne_of_beq_eq_false rfl)).trans (congrArg (fun z => wset z 41 (ia 64 (fun _ => 0))) ((ws_comm (Nat.ne_of_beq_eq_false rfl)).trans (congrArg (fun z => wset z 40 (ia 64 (fun _ => 0))) ((ws_comm (Nat.ne_of_beq_eq_false rfl)).trans (congrArg (fun z => wset z 39 (ia 32 (fun _ => 0))) ((ws_comm (Nat.ne_of_beq_eq_false rfl)).trans (congrArg (fun z => wset z 38 (ia 32 (fun _ => 0))) ((ws_comm (Nat.ne_of_beq_eq_false rfl)).trans (congrArg (fun z => wset z 37 (ia 16384 (fun _ => 0))) ws_same)))))))))))))))))))))))))))))))))))))) ?_
  refine b_aload_n C dX6_init_843 rfl ?_
  refine b_bipush C dX6_init_844 (v := 16) (by decide) ?_
  refine b_newi C G dX6_init_846 ac_int (M := 16) rfl (Nat.le_of_ble_eq_true rfl) rfl (Nat.le_of_ble_eq_true rfl) (Nat.le_of_ble_eq_true rfl) (Nat.le_of_ble_eq_true rfl) (N1 := 57) (k1 := 21) (n1 := 50228) rfl rfl rfl ?_
  refine b_putR C IN dX6_init_848 frRX6_144 (Nat.le_of_ble_eq_true rfl) (ws_ne (Nat.ne_of_beq_eq_false rfl) (ws_ne (Nat.ne_of_beq_eq_false rfl) (ws_ne (Nat.ne_of_beq_eq_false rfl) (ws_ne (Nat.ne_of_beq_eq_false rfl) (ws_ne (Nat.ne_of_beq_eq_false rfl) (ws_ne (Nat.ne_of_beq_eq_false rfl) (ws_ne (Nat.ne_of_beq_eq_false rfl) (ws_ne (Nat.ne_of_beq_eq_false rfl) (ws_ne (Nat.ne_of_beq_eq_false rfl) (ws_ne (Nat.ne_of_beq_eq_false rfl) (ws_ne (Nat.ne_of_beq_eq_false rfl) (ws_ne (Nat.ne_of_beq_eq_false rfl) (ws_ne (Nat.ne_of_beq_eq_false rfl) (ws_ne (Nat.ne_of_beq_eq_false rfl) (ws_ne (Nat.ne_of_beq_eq_false rfl) (ws_ne (Nat.ne_of_beq_eq_false rfl) (ws_ne (Nat.ne_of_beq_eq_false rfl) (ws_ne (Nat.ne_of_beq_eq_false rfl) (ws_ne (Nat.ne_of_beq_eq_false rfl) (ws_ne (Nat.ne_of_beq_eq_false rfl) ws_eq)))))))))))))))))))) (Nat.le_of_ble_eq_true rfl) (fs' := [.int 0, .int 0, .ref 36, .int 0, .ref 37, .int 3, .int 16, .int (-4), .int 0, .ref 38, .ref 39, .int 0, .ref 40, .int 0, .ref 41, .int 0, .ref 42, .int 0, .ref 43, .int 0, .ref 44, .ref 45, .ref 46, .ref 47, .ref 48, .ref 49, .int 0, .ref 50, .ref 51, .ref 52, .ref 53, .ref 54, .ref 55, .ref 56, .null, .null]) rfl ?_
  refine b_eq rfl rfl ((ws_comm (Nat.ne_of_beq_eq_false rfl)).trans (congrArg (fun z => wset z 56 (ia 16 (fun _ => 0))) ((ws_comm (Nat.ne_of_beq_eq_false rfl)).trans (congrArg (fun z => wset z 55 (ia 16 (fun _ => 0))) ((ws_comm (Nat.ne_of_beq_eq_false rfl)).trans (congrArg (fun z => wset z 54 (ia 176 (fun _ => 0))) ((ws_comm (Nat.ne_of_beq_eq_false rfl)).trans (congrArg (fun z => wset z 53 (ia 32 (fun _ => 0))) ((ws_comm (Nat.ne_of_beq_eq_false rfl)).trans (congrArg (fun z => wset z 52 (ia 32 (fun _ => 0))) ((ws_comm (Nat.ne_of_beq_eq_false rfl)).trans (congrArg (fun z => wset z 51 (ia 256 (fun _ => 0))) ((ws_comm (Nat.ne_of_beq_eq_false rfl)).trans (congrArg (fun z => wset z 50 (ia 16 (fun _ => 0))) ((ws_comm (Nat.ne_of_beq_eq_false rfl)).trans (congrArg (fun z => wset z 49 (ia 32 fpd0)) ((ws_comm (Nat.ne_of_beq_eq_false rfl)).trans (congrArg (fun z => wset z 48 (ia 16 ftn0)) ((ws_comm (Nat.ne_of_beq_eq_false rfl)).trans (congrArg (fun z => wset z 47 (ia 64 fsn0)) ((ws_comm (Nat.ne_of_beq_eq_false rfl)).trans (congrArg (fun z => wset z 46 (ia 4 (fun _ => 0))) ((ws_comm (Nat.ne_of_beq_eq_false rfl)).trans (congrArg (fun z => wset z 45 (ia 16 (fun _ => 0))) ((ws_comm (Nat.ne_of_beq_eq_false rfl)).trans (congrArg (fun z => wset z 44 (ia 16512 (fun _ => 0))) ((ws_comm (Nat.ne_of_beq_eq_false rfl)).trans (congrArg (fun z => wset z 43 (ia 16 (fun _ => 0))) ((ws_comm (Nat.ne_of_beq_eq_false rfl)).trans (congrArg (fun z => wset z 42 (ia 64 (fun _ => 0))) ((ws_comm (Nat.ne_of_beq_eq_false rfl)).trans (congrArg (fun z => wset z 41 (ia 64 (fun _ => 0))) ((ws_comm (Nat.ne_of_beq_eq_false rfl)).trans (congrArg (fun z => wset z 40 (ia 64 (fun _ => 0))) ((ws_comm (Nat.ne_of_beq_eq_false rfl)).trans (congrArg (fun z => wset z 39 (ia 32 (fun _ => 0))) ((ws_comm (Nat.ne_of_beq_eq_false rfl)).trans (congrArg (fun z => wset z 38 (ia 32 (fun _ => 0))) ((ws_comm (Nat.ne_of_beq_eq_false rfl)).trans (congrArg (fun z => wset z 37 (ia 16384 (fun _ => 0))) ws_same)))))))))))))))))))))))))))))))))))))))) ?_
  refine b_aload_n C dX6_init_851 rfl ?_
  refine b_sipush C dX6_init_852 (v := 256) (by decide) ?_
  refine b_newi C G dX6_init_855 ac_int (M := 256) rfl (Nat.le_of_ble_eq_true rfl) rfl (Nat.le_of_ble_eq_true rfl) (Nat.le_of_ble_eq_true rfl) (Nat.le_of_ble_eq_true rfl) (N1 := 58) (k1 := 22) (n1 := 50484) rfl rfl rfl ?_
  refine b_putR C IN dX6_init_857 frRX6_147 (Nat.le_of_ble_eq_true rfl) (ws_ne (Nat.ne_of_beq_eq_false rfl) (ws_ne (Nat.ne_of_beq_eq_false rfl) (ws_ne (Nat.ne_of_beq_eq_false rfl) (ws_ne (Nat.ne_of_beq_eq_false rfl) (ws_ne (Nat.ne_of_beq_eq_false rfl) (ws_ne (Nat.ne_of_beq_eq_false rfl) (ws_ne (Nat.ne_of_beq_eq_false rfl) (ws_ne (Nat.ne_of_beq_eq_false rfl) (ws_ne (Nat.ne_of_beq_eq_false rfl) (ws_ne (Nat.ne_of_beq_eq_false rfl) (ws_ne (Nat.ne_of_beq_eq_false rfl) (ws_ne (Nat.ne_of_beq_eq_false rfl) (ws_ne (Nat.ne_of_beq_eq_false rfl) (ws_ne (Nat.ne_of_beq_eq_false rfl) (ws_ne (Nat.ne_of_beq_eq_false rfl) (ws_ne (Nat.ne_of_beq_eq_false rfl) (ws_ne (Nat.ne_of_beq_eq_false rfl) (ws_ne (Nat.ne_of_beq_eq_false rfl) (ws_ne (Nat.ne_of_beq_eq_false rfl) (ws_ne (Nat.ne_of_beq_eq_false rfl) (ws_ne (Nat.ne_of_beq_eq_false rfl) ws_eq))))))))))))))))))))) (Nat.le_of_ble_eq_true rfl) (fs' := [.int 0, .int 0, .ref 36, .int 0, .ref 37, .int 3, .int 16, .int (-4), .int 0, .ref 38, .ref 39, .int 0, .ref 40, .int 0, .ref 41, .int 0, .ref 42, .int 0, .ref 43, .int 0, .ref 44, .ref 45, .ref 46, .ref 47, .ref 48, .ref 49, .int 0, .ref 50, .ref 51, .ref 52, .ref 53, .ref 54, .ref 55, .ref 56, .ref 57, .null]) rfl ?_
  refine b_eq rfl rfl ((ws_comm (Nat.ne_of_beq_eq_false rfl)).trans (congrArg (fun z => wset z 57 (ia 256 (fun _ => 0))) ((ws_comm (Nat.ne_of_beq_eq_false rfl)).trans (congrArg (fun z => wset z 56 (ia 16 (fun _ => 0))) ((ws_comm (Nat.ne_of_beq_eq_false rfl)).trans (congrArg (fun z => wset z 55 (ia 16 (fun _ => 0))) ((ws_comm (Nat.ne_of_beq_eq_false rfl)).trans (congrArg (fun z => wset z 54 (ia 176 (fun _ => 0))) ((ws_comm (Nat.ne_of_beq_eq_false rfl)).trans (congrArg (fun z => wset z 53 (ia 32 (fun _ => 0))) ((ws_comm (Nat.ne_of_beq_eq_false rfl)).trans (congrArg (fun z => wset z 52 (ia 32 (fun _ => 0))) ((ws_comm (Nat.ne_of_beq_eq_false rfl)).trans (congrArg (fun z => wset z 51 (ia 256 (fun _ => 0))) ((ws_comm (Nat.ne_of_beq_eq_false rfl)).trans (congrArg (fun z => wset z 50 (ia 16 (fun _ => 0))) ((ws_comm (Nat.ne_of_beq_eq_false rfl)).trans (congrArg (fun z => wset z 49 (ia 32 fpd0)) ((ws_comm (Nat.ne_of_beq_eq_false rfl)).trans (congrArg (fun z => wset z 48 (ia 16 ftn0)) ((ws_comm (Nat.ne_of_beq_eq_false rfl)).trans (congrArg (fun z => wset z 47 (ia 64 fsn0)) ((ws_comm (Nat.ne_of_beq_eq_false rfl)).trans (congrArg (fun z => wset z 46 (ia 4 (fun _ => 0))) ((ws_comm (Nat.ne_of_beq_eq_false rfl)).trans (congrArg (fun z => wset z 45 (ia 16 (fun _ => 0))) ((ws_comm (Nat.ne_of_beq_eq_false rfl)).trans (congrArg (fun z => wset z 44 (ia 16512 (fun _ => 0))) ((ws_comm (Nat.ne_of_beq_eq_false rfl)).trans (congrArg (fun z => wset z 43 (ia 16 (fun _ => 0))) ((ws_comm (Nat.ne_of_beq_eq_false rfl)).trans (congrArg (fun z => wset z 42 (ia 64 (fun _ => 0))) ((ws_comm (Nat.ne_of_beq_eq_false rfl)).trans (congrArg (fun z => wset z 41 (ia 64 (fun _ => 0))) ((ws_comm (Nat.ne_of_beq_eq_false rfl)).trans (congrArg (fun z => wset z 40 (ia 64 (fun _ => 0))) ((ws_comm (Nat.ne_of_beq_eq_false rfl)).trans (congrArg (fun z => wset z 39 (ia 32 (fun _ => 0))) ((ws_comm (Nat.ne_of_beq_eq_false rfl)).trans (congrArg (fun z => wset z 38 (ia 32 (fun _ => 0))) ((ws_comm (Nat.ne_of_beq_eq_false rfl)).trans (congrArg (fun z => wset z 37 (ia 16384 (fun _ => 0))) ws_same)))))))))))))))))))))))))))))))))))))))))) ?_
  refine b_aload_n C dX6_init_860 rfl ?_
  refine b_sipush C dX6_init_861 (v := 256) (by decide) ?_
  refine b_newi C G dX6_init_864 ac_int (M := 256) rfl (Nat.le_of_ble_eq_true rfl) rfl (Nat.le_of_ble_eq_true rfl) (Nat.le_of_ble_eq_true rfl) (Nat.le_of_ble_eq_true rfl) (N1 := 59) (k1 := 23) (n1 := 50740) rfl rfl rfl ?_
  refine b_putR C IN dX6_init_866 frRX6_150 (Nat.le_of_ble_eq_true rfl) (ws_ne (Nat.ne_of_beq_eq_false rfl) (ws_ne (Nat.ne_of_beq_eq_false rfl) (ws_ne (Nat.ne_of_beq_eq_false rfl) (ws_ne (Nat.ne_of_beq_eq_false rfl) (ws_ne (Nat.ne_of_beq_eq_false rfl) (ws_ne (Nat.ne_of_beq_eq_false rfl) (ws_ne (Nat.ne_of_beq_eq_false rfl) (ws_ne (Nat.ne_of_beq_eq_false rfl) (ws_ne (Nat.ne_of_beq_eq_false rfl) (ws_ne (Nat.ne_of_beq_eq_false rfl) (ws_ne (Nat.ne_of_beq_eq_false rfl) (ws_ne (Nat.ne_of_beq_eq_false rfl) (ws_ne (Nat.ne_of_beq_eq_false rfl) (ws_ne (Nat.ne_of_beq_eq_false rfl) (ws_ne (Nat.ne_of_beq_eq_false rfl) (ws_ne (Nat.ne_of_beq_eq_false rfl) (ws_ne (Nat.ne_of_beq_eq_false rfl) (ws_ne (Nat.ne_of_beq_eq_false rfl) (ws_ne (Nat.ne_of_beq_eq_false rfl) (ws_ne (Nat.ne_of_beq_eq_false rfl) (ws_ne (Nat.ne_of_beq_eq_false rfl) (ws_ne (Nat.ne_of_beq_eq_false rfl) ws_eq)))))))))))))))))))))) (Nat.le_of_ble_eq_true rfl) (fs' := [.int 0, .int 0, .ref 36, .int 0, .ref 37, .int 3, .int 16, .int (-4), .int 0, .ref 38, .ref 39, .int 0, .ref 40, .int 0, .ref 41, .int 0, .ref 42, .int 0, .ref 43, .int 0, .ref 44, .ref 45, .ref 46, .ref 47, .ref 48, .ref 49, .int 0, .ref 50, .ref 51, .ref 52, .ref 53, .ref 54, .ref 55, .ref 56, .ref 57, .ref 58]) rfl ?_
  refine b_eq rfl rfl ((ws_comm (Nat.ne_of_beq_eq_false rfl)).trans (congrArg (fun z => wset z 58 (ia 256 (fun _ => 0))) ((ws_comm (Nat.ne_of_beq_eq_false rfl)).trans (congrArg (fun z => wset z 57 (ia 256 (fun _ => 0))) ((ws_comm (Nat.ne_of_beq_eq_false rfl)).trans (congrArg (fun z => wset z 56 (ia 16 (fun _ => 0))) ((ws_comm (Nat.ne_of_beq_eq_false rfl)).trans (congrArg (fun z => wset z 55 (ia 16 (fun _ => 0))) ((ws_comm (Nat.ne_of_beq_eq_false rfl)).trans (congrArg (fun z => wset z 54 (ia 176 (fun _ => 0))) ((ws_comm (Nat.ne_of_beq_eq_false rfl)).trans (congrArg (fun z => wset z 53 (ia 32 (fun _ => 0))) ((ws_comm (Nat.ne_of_beq_eq_false rfl)).trans (congrArg (fun z => wset z 52 (ia 32 (fun _ => 0))) ((ws_comm (Nat.ne_of_beq_eq_false rfl)).trans (congrArg (fun z => wset z 51 (ia 256 (fun _ => 0))) ((ws_comm (Nat.ne_of_beq_eq_false rfl)).trans (congrArg (fun z => wset z 50 (ia 16 (fun _ => 0))) ((ws_comm (Nat.ne_of_beq_eq_false rfl)).trans (congrArg (fun z => wset z 49 (ia 32 fpd0)) ((ws_comm (Nat.ne_of_beq_eq_false rfl)).trans (congrArg (fun z => wset z 48 (ia 16 ftn0)) ((ws_comm (Nat.ne_of_beq_eq_false rfl)).trans (congrArg (fun z => wset z 47 (ia 64 fsn0)) ((ws_comm (Nat.ne_of_beq_eq_false rfl)).trans (congrArg (fun z => wset z 46 (ia 4 (fun _ => 0))) ((ws_comm (Nat.ne_of_beq_eq_false rfl)).trans (congrArg (fun z => wset z 45 (ia 16 (fun _ => 0))) ((ws_comm (Nat.ne_of_beq_eq_false rfl)).trans (congrArg (fun z => wset z 44 (ia 16512 (fun _ => 0))) ((ws_comm (Nat.ne_of_beq_eq_false rfl)).trans (congrArg (fun z => wset z 43 (ia 16 (fun _ => 0))) ((ws_comm (Nat.ne_of_beq_eq_false rfl)).trans (congrArg (fun z => wset z 42 (ia 64 (fun _ => 0))) ((ws_comm (Nat.ne_of_beq_eq_false rfl)).trans (congrArg (fun z => wset z 41 (ia 64 (fun _ => 0))) ((ws_comm (Nat.ne_of_beq_eq_false rfl)).trans (congrArg (fun z => wset z 40 (ia 64 (fun _ => 0))) ((ws_comm (Nat.ne_of_beq_eq_false rfl)).trans (congrArg (fun z => wset z 39 (ia 32 (fun _ => 0))) ((ws_comm (Nat.ne_of_beq_eq_false rfl)).trans (congrArg (fun z => wset z 38 (ia 32 (fun _ => 0))) ((ws_comm (Nat.ne_of_beq_eq_false rfl)).trans (congrArg (fun z => wset z 37 (ia 16384 (fun _ => 0))) ws_same)))))))))))))))))))))))))))))))))))))))))))) ?_
  exact b_return C T_ rfl rfl rfl rfl rfl dX6_init_869
