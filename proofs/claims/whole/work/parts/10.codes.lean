set_option maxRecDepth 100000 in
theorem zcw_0 : Cond.code (zY 0) (zB 0) (zL 0) (zRt (zRk 0)) ∈ lw_tbl := List.mem_of_getElem? (i := 575) rfl
set_option maxRecDepth 100000 in
theorem zcw_1 : Cond.code (zY 1) (zB 1) (zL 1) (zRt (zRk 1)) ∈ lw_tbl := List.mem_of_getElem? (i := 580) rfl
set_option maxRecDepth 100000 in
theorem zcw_2 : Cond.code (zY 2) (zB 2) (zL 2) (zRt (zRk 2)) ∈ lw_tbl := List.mem_of_getElem? (i := 585) rfl
set_option maxRecDepth 100000 in
theorem zcw_3 : Cond.code (zY 3) (zB 3) (zL 3) (zRt (zRk 3)) ∈ lw_tbl := List.mem_of_getElem? (i := 458) rfl
set_option maxRecDepth 100000 in
theorem zcw_4 : Cond.code (zY 4) (zB 4) (zL 4) (zRt (zRk 4)) ∈ lw_tbl := List.mem_of_getElem? (i := 470) rfl
set_option maxRecDepth 100000 in
theorem zcw_5 : Cond.code (zY 5) (zB 5) (zL 5) (zRt (zRk 5)) ∈ lw_tbl := List.mem_of_getElem? (i := 463) rfl
set_option maxRecDepth 100000 in
theorem zcw_6 : Cond.code (zY 6) (zB 6) (zL 6) (zRt (zRk 6)) ∈ lw_tbl := List.mem_of_getElem? (i := 466) rfl
set_option maxRecDepth 100000 in
theorem zcw_7 : Cond.code (zY 7) (zB 7) (zL 7) (zRt (zRk 7)) ∈ lw_tbl := List.mem_of_getElem? (i := 475) rfl
set_option maxRecDepth 100000 in
theorem zcw_8 : Cond.code (zY 8) (zB 8) (zL 8) (zRt (zRk 8)) ∈ lw_tbl := List.mem_of_getElem? (i := 483) rfl
set_option maxRecDepth 100000 in
theorem zcw_9 : Cond.code (zY 9) (zB 9) (zL 9) (zRt (zRk 9)) ∈ lw_tbl := List.mem_of_getElem? (i := 498) rfl
set_option maxRecDepth 100000 in
theorem zcw_10 : Cond.code (zY 10) (zB 10) (zL 10) (zRt (zRk 10)) ∈ lw_tbl := List.mem_of_getElem? (i := 502) rfl
set_option maxRecDepth 100000 in
theorem zcw_11 : Cond.code (zY 11) (zB 11) (zL 11) (zRt (zRk 11)) ∈ lw_tbl := List.mem_of_getElem? (i := 507) rfl
set_option maxRecDepth 100000 in
theorem zcw_12 : Cond.code (zY 12) (zB 12) (zL 12) (zRt (zRk 12)) ∈ lw_tbl := List.mem_of_getElem? (i := 520) rfl
set_option maxRecDepth 100000 in
theorem zcw_13 : Cond.code (zY 13) (zB 13) (zL 13) (zRt (zRk 13)) ∈ lw_tbl := List.mem_of_getElem? (i := 284) rfl
set_option maxRecDepth 100000 in
theorem zcw_14 : Cond.code (zY 14) (zB 14) (zL 14) (zRt (zRk 14)) ∈ lw_tbl := List.mem_of_getElem? (i := 364) rfl
set_option maxRecDepth 100000 in
theorem zcw_15 : Cond.code (zY 15) (zB 15) (zL 15) (zRt (zRk 15)) ∈ lw_tbl := List.mem_of_getElem? (i := 453) rfl
set_option maxRecDepth 100000 in
theorem zcw_16 : Cond.code (zY 16) (zB 16) (zL 16) (zRt (zRk 16)) ∈ lw_tbl := List.mem_of_getElem? (i := 400) rfl
set_option maxRecDepth 100000 in
theorem zcw_17 : Cond.code (zY 17) (zB 17) (zL 17) (zRt (zRk 17)) ∈ lw_tbl := List.mem_of_getElem? (i := 419) rfl
set_option maxRecDepth 100000 in
theorem zcw_18 : Cond.code (zY 18) (zB 18) (zL 18) (zRt (zRk 18)) ∈ lw_tbl := List.mem_of_getElem? (i := 423) rfl
set_option maxRecDepth 100000 in
theorem zcw_19 : Cond.code (zY 19) (zB 19) (zL 19) (zRt (zRk 19)) ∈ lw_tbl := List.mem_of_getElem? (i := 404) rfl
set_option maxRecDepth 100000 in
theorem zcw_20 : Cond.code (zY 20) (zB 20) (zL 20) (zRt (zRk 20)) ∈ lw_tbl := List.mem_of_getElem? (i := 409) rfl
set_option maxRecDepth 100000 in
theorem zcw_21 : Cond.code (zY 21) (zB 21) (zL 21) (zRt (zRk 21)) ∈ lw_tbl := List.mem_of_getElem? (i := 413) rfl
set_option maxRecDepth 100000 in
theorem zcw_22 : Cond.code (zY 22) (zB 22) (zL 22) (zRt (zRk 22)) ∈ lw_tbl := List.mem_of_getElem? (i := 427) rfl
set_option maxRecDepth 100000 in
theorem zcw_23 : Cond.code (zY 23) (zB 23) (zL 23) (zRt (zRk 23)) ∈ lw_tbl := List.mem_of_getElem? (i := 431) rfl
set_option maxRecDepth 100000 in
theorem zcw_24 : Cond.code (zY 24) (zB 24) (zL 24) (zRt (zRk 24)) ∈ lw_tbl := List.mem_of_getElem? (i := 435) rfl
set_option maxRecDepth 100000 in
theorem zcw_25 : Cond.code (zY 25) (zB 25) (zL 25) (zRt (zRk 25)) ∈ lw_tbl := List.mem_of_getElem? (i := 445) rfl
set_option maxRecDepth 100000 in
theorem zcw_26 : Cond.code (zY 26) (zB 26) (zL 26) (zRt (zRk 26)) ∈ lw_tbl := List.mem_of_getElem? (i := 516) rfl
set_option maxRecDepth 100000 in
theorem zcw_27 : Cond.code (zY 27) (zB 27) (zL 27) (zRt (zRk 27)) ∈ lw_tbl := List.mem_of_getElem? (i := 537) rfl
set_option maxRecDepth 100000 in
theorem zcw_28 : Cond.code (zY 28) (zB 28) (zL 28) (zRt (zRk 28)) ∈ lw_tbl := List.mem_of_getElem? (i := 533) rfl
set_option maxRecDepth 100000 in
theorem zcw_29 : Cond.code (zY 29) (zB 29) (zL 29) (zRt (zRk 29)) ∈ lw_tbl := List.mem_of_getElem? (i := 488) rfl
set_option maxRecDepth 100000 in
theorem zcw_30 : Cond.code (zY 30) (zB 30) (zL 30) (zRt (zRk 30)) ∈ lw_tbl := List.mem_of_getElem? (i := 492) rfl
set_option maxRecDepth 100000 in
theorem zcw_31 : Cond.code (zY 31) (zB 31) (zL 31) (zRt (zRk 31)) ∈ lw_tbl := List.mem_of_getElem? (i := 373) rfl
set_option maxRecDepth 100000 in
theorem zcw_32 : Cond.code (zY 32) (zB 32) (zL 32) (zRt (zRk 32)) ∈ lw_tbl := List.mem_of_getElem? (i := 127) rfl
set_option maxRecDepth 100000 in
theorem zcw_33 : Cond.code (zY 33) (zB 33) (zL 33) (zRt (zRk 33)) ∈ lw_tbl := List.mem_of_getElem? (i := 381) rfl
set_option maxRecDepth 100000 in
theorem zcw_34 : Cond.code (zY 34) (zB 34) (zL 34) (zRt (zRk 34)) ∈ lw_tbl := List.mem_of_getElem? (i := 360) rfl
set_option maxRecDepth 100000 in
theorem zcw_35 : Cond.code (zY 35) (zB 35) (zL 35) (zRt (zRk 35)) ∈ lw_tbl := List.mem_of_getElem? (i := 479) rfl
set_option maxRecDepth 100000 in
theorem zcw_36 : Cond.code (zY 36) (zB 36) (zL 36) (zRt (zRk 36)) ∈ lw_tbl := List.mem_of_getElem? (i := 320) rfl
set_option maxRecDepth 100000 in
theorem zcw_37 : Cond.code (zY 37) (zB 37) (zL 37) (zRt (zRk 37)) ∈ lw_tbl := List.mem_of_getElem? (i := 333) rfl
set_option maxRecDepth 100000 in
theorem zcw_38 : Cond.code (zY 38) (zB 38) (zL 38) (zRt (zRk 38)) ∈ lw_tbl := List.mem_of_getElem? (i := 316) rfl
set_option maxRecDepth 100000 in
theorem zcw_39 : Cond.code (zY 39) (zB 39) (zL 39) (zRt (zRk 39)) ∈ lw_tbl := List.mem_of_getElem? (i := 356) rfl
set_option maxRecDepth 100000 in
theorem zcw_40 : Cond.code (zY 40) (zB 40) (zL 40) (zRt (zRk 40)) ∈ lw_tbl := List.mem_of_getElem? (i := 288) rfl
set_option maxRecDepth 100000 in
theorem zcw_41 : Cond.code (zY 41) (zB 41) (zL 41) (zRt (zRk 41)) ∈ lw_tbl := List.mem_of_getElem? (i := 324) rfl
set_option maxRecDepth 100000 in
theorem zcw_42 : Cond.code (zY 42) (zB 42) (zL 42) (zRt (zRk 42)) ∈ lw_tbl := List.mem_of_getElem? (i := 341) rfl
set_option maxRecDepth 100000 in
theorem zcw_43 : Cond.code (zY 43) (zB 43) (zL 43) (zRt (zRk 43)) ∈ lw_tbl := List.mem_of_getElem? (i := 308) rfl
set_option maxRecDepth 100000 in
theorem zcw_44 : Cond.code (zY 44) (zB 44) (zL 44) (zRt (zRk 44)) ∈ lw_tbl := List.mem_of_getElem? (i := 337) rfl
set_option maxRecDepth 100000 in
theorem zcw_45 : Cond.code (zY 45) (zB 45) (zL 45) (zRt (zRk 45)) ∈ lw_tbl := List.mem_of_getElem? (i := 300) rfl
set_option maxRecDepth 100000 in
theorem zcw_46 : Cond.code (zY 46) (zB 46) (zL 46) (zRt (zRk 46)) ∈ lw_tbl := List.mem_of_getElem? (i := 296) rfl
set_option maxRecDepth 100000 in
theorem zcw_47 : Cond.code (zY 47) (zB 47) (zL 47) (zRt (zRk 47)) ∈ lw_tbl := List.mem_of_getElem? (i := 304) rfl
set_option maxRecDepth 100000 in
theorem zcw_48 : Cond.code (zY 48) (zB 48) (zL 48) (zRt (zRk 48)) ∈ lw_tbl := List.mem_of_getElem? (i := 567) rfl
set_option maxRecDepth 100000 in
theorem zcw_49 : Cond.code (zY 49) (zB 49) (zL 49) (zRt (zRk 49)) ∈ lw_tbl := List.mem_of_getElem? (i := 512) rfl
set_option maxRecDepth 100000 in
theorem zcw_50 : Cond.code (zY 50) (zB 50) (zL 50) (zRt (zRk 50)) ∈ lw_tbl := List.mem_of_getElem? (i := 525) rfl
set_option maxRecDepth 100000 in
theorem zcw_51 : Cond.code (zY 51) (zB 51) (zL 51) (zRt (zRk 51)) ∈ lw_tbl := List.mem_of_getElem? (i := 292) rfl
set_option maxRecDepth 100000 in
theorem zcw_52 : Cond.code (zY 52) (zB 52) (zL 52) (zRt (zRk 52)) ∈ lw_tbl := List.mem_of_getElem? (i := 392) rfl
set_option maxRecDepth 100000 in
theorem zcw_53 : Cond.code (zY 53) (zB 53) (zL 53) (zRt (zRk 53)) ∈ lw_tbl := List.mem_of_getElem? (i := 559) rfl
set_option maxRecDepth 100000 in
theorem zcw_54 : Cond.code (zY 54) (zB 54) (zL 54) (zRt (zRk 54)) ∈ lw_tbl := List.mem_of_getElem? (i := 547) rfl
set_option maxRecDepth 100000 in
theorem zcw_55 : Cond.code (zY 55) (zB 55) (zL 55) (zRt (zRk 55)) ∈ lw_tbl := List.mem_of_getElem? (i := 551) rfl
set_option maxRecDepth 100000 in
theorem zcw_56 : Cond.code (zY 56) (zB 56) (zL 56) (zRt (zRk 56)) ∈ lw_tbl := List.mem_of_getElem? (i := 280) rfl
set_option maxRecDepth 100000 in
theorem zcw_57 : Cond.code (zY 57) (zB 57) (zL 57) (zRt (zRk 57)) ∈ lw_tbl := List.mem_of_getElem? (i := 312) rfl
set_option maxRecDepth 100000 in
theorem zcw_58 : Cond.code (zY 58) (zB 58) (zL 58) (zRt (zRk 58)) ∈ lw_tbl := List.mem_of_getElem? (i := 328) rfl
set_option maxRecDepth 100000 in
theorem zcw_59 : Cond.code (zY 59) (zB 59) (zL 59) (zRt (zRk 59)) ∈ lw_tbl := List.mem_of_getElem? (i := 345) rfl
set_option maxRecDepth 100000 in
theorem zcw_60 : Cond.code (zY 60) (zB 60) (zL 60) (zRt (zRk 60)) ∈ lw_tbl := List.mem_of_getElem? (i := 349) rfl
set_option maxRecDepth 100000 in
theorem zcw_61 : Cond.code (zY 61) (zB 61) (zL 61) (zRt (zRk 61)) ∈ lw_tbl := List.mem_of_getElem? (i := 369) rfl
set_option maxRecDepth 100000 in
theorem zcw_62 : Cond.code (zY 62) (zB 62) (zL 62) (zRt (zRk 62)) ∈ lw_tbl := List.mem_of_getElem? (i := 385) rfl
set_option maxRecDepth 100000 in
theorem zcw_63 : Cond.code (zY 63) (zB 63) (zL 63) (zRt (zRk 63)) ∈ lw_tbl := List.mem_of_getElem? (i := 396) rfl
set_option maxRecDepth 100000 in
theorem zcw_64 : Cond.code (zY 64) (zB 64) (zL 64) (zRt (zRk 64)) ∈ lw_tbl := List.mem_of_getElem? (i := 441) rfl
set_option maxRecDepth 100000 in
theorem zcw_65 : Cond.code (zY 65) (zB 65) (zL 65) (zRt (zRk 65)) ∈ lw_tbl := List.mem_of_getElem? (i := 449) rfl
set_option maxRecDepth 100000 in
theorem zcw_66 : Cond.code (zY 66) (zB 66) (zL 66) (zRt (zRk 66)) ∈ lw_tbl := List.mem_of_getElem? (i := 529) rfl
set_option maxRecDepth 100000 in
theorem zcw_67 : Cond.code (zY 67) (zB 67) (zL 67) (zRt (zRk 67)) ∈ lw_tbl := List.mem_of_getElem? (i := 543) rfl
set_option maxRecDepth 100000 in
theorem zcw_68 : Cond.code (zY 68) (zB 68) (zL 68) (zRt (zRk 68)) ∈ lw_tbl := List.mem_of_getElem? (i := 555) rfl
set_option maxRecDepth 100000 in
theorem zcw_69 : Cond.code (zY 69) (zB 69) (zL 69) (zRt (zRk 69)) ∈ lw_tbl := List.mem_of_getElem? (i := 563) rfl
set_option maxRecDepth 100000 in
theorem zcw_70 : Cond.code (zY 70) (zB 70) (zL 70) (zRt (zRk 70)) ∈ lw_tbl := List.mem_of_getElem? (i := 571) rfl
set_option maxRecDepth 100000 in
theorem zcw_71 : Cond.code (zY 71) (zB 71) (zL 71) (zRt (zRk 71)) ∈ lw_tbl := List.mem_of_getElem? (i := 591) rfl
set_option maxRecDepth 100000 in
theorem zcw_72 : Cond.code (zY 72) (zB 72) (zL 72) (zRt (zRk 72)) ∈ lw_tbl := List.mem_of_getElem? (i := 595) rfl
set_option maxRecDepth 100000 in
theorem zcw_73 : Cond.code (zY 73) (zB 73) (zL 73) (zRt (zRk 73)) ∈ lw_tbl := List.mem_of_getElem? (i := 599) rfl
set_option maxRecDepth 100000 in
theorem zcw_74 : Cond.code (zY 74) (zB 74) (zL 74) (zRt (zRk 74)) ∈ lw_tbl := List.mem_of_getElem? (i := 377) rfl
set_option maxRecDepth 100000 in
theorem zcw_75 : Cond.code (zY 75) (zB 75) (zL 75) (zRt (zRk 75)) ∈ lw_tbl := List.mem_of_getElem? (i := 352) rfl
set_option maxRecDepth 100000 in
theorem zcw_76 : Cond.code (zY 76) (zB 76) (zL 76) (zRt (zRk 76)) ∈ lw_tbl := List.mem_of_getElem? (i := 388) rfl
set_option maxRecDepth 100000 in
theorem zcw_77 : Cond.code (zY 77) (zB 77) (zL 77) (zRt (zRk 77)) ∈ lw_tbl := List.mem_of_getElem? (i := 723) rfl
set_option maxRecDepth 100000 in
theorem zcw_78 : Cond.code (zY 78) (zB 78) (zL 78) (zRt (zRk 78)) ∈ lw_tbl := List.mem_of_getElem? (i := 731) rfl
set_option maxRecDepth 100000 in
theorem zcw_79 : Cond.code (zY 79) (zB 79) (zL 79) (zRt (zRk 79)) ∈ lw_tbl := List.mem_of_getElem? (i := 743) rfl
set_option maxRecDepth 100000 in
theorem zcw_80 : Cond.code (zY 80) (zB 80) (zL 80) (zRt (zRk 80)) ∈ lw_tbl := List.mem_of_getElem? (i := 609) rfl
set_option maxRecDepth 100000 in
theorem zcw_81 : Cond.code (zY 81) (zB 81) (zL 81) (zRt (zRk 81)) ∈ lw_tbl := List.mem_of_getElem? (i := 613) rfl
set_option maxRecDepth 100000 in
theorem zcw_82 : Cond.code (zY 82) (zB 82) (zL 82) (zRt (zRk 82)) ∈ lw_tbl := List.mem_of_getElem? (i := 767) rfl
set_option maxRecDepth 100000 in
theorem zcw_83 : Cond.code (zY 83) (zB 83) (zL 83) (zRt (zRk 83)) ∈ lw_tbl := List.mem_of_getElem? (i := 771) rfl
set_option maxRecDepth 100000 in
theorem zcw_84 : Cond.code (zY 84) (zB 84) (zL 84) (zRt (zRk 84)) ∈ lw_tbl := List.mem_of_getElem? (i := 763) rfl
set_option maxRecDepth 100000 in
theorem zcw_85 : Cond.code (zY 85) (zB 85) (zL 85) (zRt (zRk 85)) ∈ lw_tbl := List.mem_of_getElem? (i := 775) rfl
set_option maxRecDepth 100000 in
theorem zcw_86 : Cond.code (zY 86) (zB 86) (zL 86) (zRt (zRk 86)) ∈ lw_tbl := List.mem_of_getElem? (i := 779) rfl
set_option maxRecDepth 100000 in
theorem zcw_87 : Cond.code (zY 87) (zB 87) (zL 87) (zRt (zRk 87)) ∈ lw_tbl := List.mem_of_getElem? (i := 783) rfl
set_option maxRecDepth 100000 in
theorem zcw_88 : Cond.code (zY 88) (zB 88) (zL 88) (zRt (zRk 88)) ∈ lw_tbl := List.mem_of_getElem? (i := 791) rfl
set_option maxRecDepth 100000 in
theorem zcw_89 : Cond.code (zY 89) (zB 89) (zL 89) (zRt (zRk 89)) ∈ lw_tbl := List.mem_of_getElem? (i := 810) rfl
set_option maxRecDepth 100000 in
theorem zcw_90 : Cond.code (zY 90) (zB 90) (zL 90) (zRt (zRk 90)) ∈ lw_tbl := List.mem_of_getElem? (i := 818) rfl
set_option maxRecDepth 100000 in
theorem zcw_91 : Cond.code (zY 91) (zB 91) (zL 91) (zRt (zRk 91)) ∈ lw_tbl := List.mem_of_getElem? (i := 807) rfl
set_option maxRecDepth 100000 in
theorem zcw_92 : Cond.code (zY 92) (zB 92) (zL 92) (zRt (zRk 92)) ∈ lw_tbl := List.mem_of_getElem? (i := 803) rfl
set_option maxRecDepth 100000 in
theorem zcw_93 : Cond.code (zY 93) (zB 93) (zL 93) (zRt (zRk 93)) ∈ lw_tbl := List.mem_of_getElem? (i := 814) rfl
set_option maxRecDepth 100000 in
theorem zcw_94 : Cond.code (zY 94) (zB 94) (zL 94) (zRt (zRk 94)) ∈ lw_tbl := List.mem_of_getElem? (i := 826) rfl
set_option maxRecDepth 100000 in
theorem zcw_95 : Cond.code (zY 95) (zB 95) (zL 95) (zRt (zRk 95)) ∈ lw_tbl := List.mem_of_getElem? (i := 822) rfl
set_option maxRecDepth 100000 in
theorem zcw_96 : Cond.code (zY 96) (zB 96) (zL 96) (zRt (zRk 96)) ∈ lw_tbl := List.mem_of_getElem? (i := 799) rfl
set_option maxRecDepth 100000 in
theorem zcw_97 : Cond.code (zY 97) (zB 97) (zL 97) (zRt (zRk 97)) ∈ lw_tbl := List.mem_of_getElem? (i := 720) rfl
set_option maxRecDepth 100000 in
theorem zcw_98 : Cond.code (zY 98) (zB 98) (zL 98) (zRt (zRk 98)) ∈ lw_tbl := List.mem_of_getElem? (i := 727) rfl
set_option maxRecDepth 100000 in
theorem zcw_99 : Cond.code (zY 99) (zB 99) (zL 99) (zRt (zRk 99)) ∈ lw_tbl := List.mem_of_getElem? (i := 735) rfl
set_option maxRecDepth 100000 in
theorem zcw_100 : Cond.code (zY 100) (zB 100) (zL 100) (zRt (zRk 100)) ∈ lw_tbl := List.mem_of_getElem? (i := 739) rfl
set_option maxRecDepth 100000 in
theorem zcw_101 : Cond.code (zY 101) (zB 101) (zL 101) (zRt (zRk 101)) ∈ lw_tbl := List.mem_of_getElem? (i := 747) rfl
set_option maxRecDepth 100000 in
theorem zcw_102 : Cond.code (zY 102) (zB 102) (zL 102) (zRt (zRk 102)) ∈ lw_tbl := List.mem_of_getElem? (i := 751) rfl
set_option maxRecDepth 100000 in
theorem zcw_103 : Cond.code (zY 103) (zB 103) (zL 103) (zRt (zRk 103)) ∈ lw_tbl := List.mem_of_getElem? (i := 755) rfl
set_option maxRecDepth 100000 in
theorem zcw_104 : Cond.code (zY 104) (zB 104) (zL 104) (zRt (zRk 104)) ∈ lw_tbl := List.mem_of_getElem? (i := 759) rfl
set_option maxRecDepth 100000 in
theorem zcw_105 : Cond.code (zY 105) (zB 105) (zL 105) (zRt (zRk 105)) ∈ lw_tbl := List.mem_of_getElem? (i := 787) rfl
set_option maxRecDepth 100000 in
theorem zcw_106 : Cond.code (zY 106) (zB 106) (zL 106) (zRt (zRk 106)) ∈ lw_tbl := List.mem_of_getElem? (i := 795) rfl
set_option maxRecDepth 100000 in
theorem zcw_107 : Cond.code (zY 107) (zB 107) (zL 107) (zRt (zRk 107)) ∈ lw_tbl := List.mem_of_getElem? (i := 830) rfl
set_option maxRecDepth 100000 in
theorem zcw_108 : Cond.code (zY 108) (zB 108) (zL 108) (zRt (zRk 108)) ∈ lw_tbl := List.mem_of_getElem? (i := 838) rfl
set_option maxRecDepth 100000 in
theorem zcw_109 : Cond.code (zY 109) (zB 109) (zL 109) (zRt (zRk 109)) ∈ lw_tbl := List.mem_of_getElem? (i := 834) rfl
set_option maxRecDepth 100000 in
theorem zcw_110 : Cond.code (zY 110) (zB 110) (zL 110) (zRt (zRk 110)) ∈ lw_tbl := List.mem_of_getElem? (i := 842) rfl
set_option maxRecDepth 100000 in
theorem zcw_111 : Cond.code (zY 111) (zB 111) (zL 111) (zRt (zRk 111)) ∈ lw_tbl := List.mem_of_getElem? (i := 847) rfl
set_option maxRecDepth 100000 in
theorem zcw_112 : Cond.code (zY 112) (zB 112) (zL 112) (zRt (zRk 112)) ∈ lw_tbl := List.mem_of_getElem? (i := 855) rfl
set_option maxRecDepth 100000 in
theorem zcw_113 : Cond.code (zY 113) (zB 113) (zL 113) (zRt (zRk 113)) ∈ lw_tbl := List.mem_of_getElem? (i := 851) rfl
set_option maxRecDepth 100000 in
theorem zcw_114 : Cond.code (zY 114) (zB 114) (zL 114) (zRt (zRk 114)) ∈ lw_tbl := List.mem_of_getElem? (i := 859) rfl
set_option maxRecDepth 100000 in
theorem zcw_115 : Cond.code (zY 115) (zB 115) (zL 115) (zRt (zRk 115)) ∈ lw_tbl := List.mem_of_getElem? (i := 863) rfl
set_option maxRecDepth 100000 in
theorem zcw_116 : Cond.code (zY 116) (zB 116) (zL 116) (zRt (zRk 116)) ∈ lw_tbl := List.mem_of_getElem? (i := 123) rfl
theorem zcw : zCW
  | 0, _ => zcw_0
  | 1, _ => zcw_1
  | 2, _ => zcw_2
  | 3, _ => zcw_3
  | 4, _ => zcw_4
  | 5, _ => zcw_5
  | 6, _ => zcw_6
  | 7, _ => zcw_7
  | 8, _ => zcw_8
  | 9, _ => zcw_9
  | 10, _ => zcw_10
  | 11, _ => zcw_11
  | 12, _ => zcw_12
  | 13, _ => zcw_13
  | 14, _ => zcw_14
  | 15, _ => zcw_15
  | 16, _ => zcw_16
  | 17, _ => zcw_17
  | 18, _ => zcw_18
  | 19, _ => zcw_19
  | 20, _ => zcw_20
  | 21, _ => zcw_21
  | 22, _ => zcw_22
  | 23, _ => zcw_23
  | 24, _ => zcw_24
  | 25, _ => zcw_25
  | 26, _ => zcw_26
  | 27, _ => zcw_27
  | 28, _ => zcw_28
  | 29, _ => zcw_29
  | 30, _ => zcw_30
  | 31, _ => zcw_31
  | 32, _ => zcw_32
  | 33, _ => zcw_33
  | 34, _ => zcw_34
  | 35, _ => zcw_35
  | 36, _ => zcw_36
  | 37, _ => zcw_37
  | 38, _ => zcw_38
  | 39, _ => zcw_39
  | 40, _ => zcw_40
  | 41, _ => zcw_41
  | 42, _ => zcw_42
  | 43, _ => zcw_43
  | 44, _ => zcw_44
  | 45, _ => zcw_45
  | 46, _ => zcw_46
  | 47, _ => zcw_47
  | 48, _ => zcw_48
  | 49, _ => zcw_49
  | 50, _ => zcw_50
  | 51, _ => zcw_51
  | 52, _ => zcw_52
  | 53, _ => zcw_53
  | 54, _ => zcw_54
  | 55, _ => zcw_55
  | 56, _ => zcw_56
  | 57, _ => zcw_57
  | 58, _ => zcw_58
  | 59, _ => zcw_59
  | 60, _ => zcw_60
  | 61, _ => zcw_61
  | 62, _ => zcw_62
  | 63, _ => zcw_63
  | 64, _ => zcw_64
  | 65, _ => zcw_65
  | 66, _ => zcw_66
  | 67, _ => zcw_67
  | 68, _ => zcw_68
  | 69, _ => zcw_69
  | 70, _ => zcw_70
  | 71, _ => zcw_71
  | 72, _ => zcw_72
  | 73, _ => zcw_73
  | 74, _ => zcw_74
  | 75, _ => zcw_75
  | 76, _ => zcw_76
  | 77, _ => zcw_77
  | 78, _ => zcw_78
  | 79, _ => zcw_79
  | 80, _ => zcw_80
  | 81, _ => zcw_81
  | 82, _ => zcw_82
  | 83, _ => zcw_83
  | 84, _ => zcw_84
  | 85, _ => zcw_85
  | 86, _ => zcw_86
  | 87, _ => zcw_87
  | 88, _ => zcw_88
  | 89, _ => zcw_89
  | 90, _ => zcw_90
  | 91, _ => zcw_91
  | 92, _ => zcw_92
  | 93, _ => zcw_93
  | 94, _ => zcw_94
  | 95, _ => zcw_95
  | 96, _ => zcw_96
  | 97, _ => zcw_97
  | 98, _ => zcw_98
  | 99, _ => zcw_99
  | 100, _ => zcw_100
  | 101, _ => zcw_101
  | 102, _ => zcw_102
  | 103, _ => zcw_103
  | 104, _ => zcw_104
  | 105, _ => zcw_105
  | 106, _ => zcw_106
  | 107, _ => zcw_107
  | 108, _ => zcw_108
  | 109, _ => zcw_109
  | 110, _ => zcw_110
  | 111, _ => zcw_111
  | 112, _ => zcw_112
  | 113, _ => zcw_113
  | 114, _ => zcw_114
  | 115, _ => zcw_115
  | 116, _ => zcw_116
  | n + 117, h => absurd h (by omega)
