set_option maxRecDepth 100000 in
theorem mc0 : lw_tbl[132]? = some (Cond.code (mY 0) (mB 0) (mL 0) (mR 0)) := rfl
set_option maxRecDepth 100000 in
theorem mc1 : lw_tbl[508]? = some (Cond.code (mY 1) (mB 1) (mL 1) (mR 1)) := rfl
set_option maxRecDepth 100000 in
theorem mc2 : lw_tbl[586]? = some (Cond.code (mY 2) (mB 2) (mL 2) (mR 2)) := rfl
set_option maxRecDepth 100000 in
theorem mc3 : lw_tbl[619]? = some (Cond.code (mY 3) (mB 3) (mL 3) (mR 3)) := rfl
set_option maxRecDepth 100000 in
theorem mc4 : lw_tbl[926]? = some (Cond.code (mY 4) (mB 4) (mL 4) (mR 4)) := rfl
set_option maxRecDepth 100000 in
theorem mc5 : lw_tbl[589]? = some (Cond.code (mY 5) (mB 5) (mL 5) (mR 5)) := rfl
set_option maxRecDepth 100000 in
theorem mc6 : lw_tbl[160]? = some (Cond.code (mY 6) (mB 6) (mL 6) (mR 6)) := rfl
set_option maxRecDepth 100000 in
theorem mc7 : lw_tbl[752]? = some (Cond.code (mY 7) (mB 7) (mL 7) (mR 7)) := rfl
set_option maxRecDepth 100000 in
theorem mc8 : lw_tbl[580]? = some (Cond.code (mY 8) (mB 8) (mL 8) (mR 8)) := rfl
set_option maxRecDepth 100000 in
theorem mc9 : lw_tbl[796]? = some (Cond.code (mY 9) (mB 9) (mL 9) (mR 9)) := rfl
set_option maxRecDepth 100000 in
theorem mc10 : lw_tbl[702]? = some (Cond.code (mY 10) (mB 10) (mL 10) (mR 10)) := rfl
set_option maxRecDepth 100000 in
theorem mc11 : lw_tbl[502]? = some (Cond.code (mY 11) (mB 11) (mL 11) (mR 11)) := rfl
set_option maxRecDepth 100000 in
theorem mc12 : lw_tbl[537]? = some (Cond.code (mY 12) (mB 12) (mL 12) (mR 12)) := rfl
set_option maxRecDepth 100000 in
theorem mc13 : lw_tbl[146]? = some (Cond.code (mY 13) (mB 13) (mL 13) (mR 13)) := rfl
set_option maxRecDepth 100000 in
theorem mc14 : lw_tbl[511]? = some (Cond.code (mY 14) (mB 14) (mL 14) (mR 14)) := rfl
set_option maxRecDepth 100000 in
theorem mc15 : lw_tbl[596]? = some (Cond.code (mY 15) (mB 15) (mL 15) (mR 15)) := rfl
set_option maxRecDepth 100000 in
theorem mc16 : lw_tbl[941]? = some (Cond.code (mY 16) (mB 16) (mL 16) (mR 16)) := rfl
set_option maxRecDepth 100000 in
theorem mc17 : lw_tbl[286]? = some (Cond.code (mY 17) (mB 17) (mL 17) (mR 17)) := rfl
set_option maxRecDepth 100000 in
theorem mc18 : lw_tbl[735]? = some (Cond.code (mY 18) (mB 18) (mL 18) (mR 18)) := rfl
set_option maxRecDepth 100000 in
theorem mc19 : lw_tbl[706]? = some (Cond.code (mY 19) (mB 19) (mL 19) (mR 19)) := rfl
set_option maxRecDepth 100000 in
theorem mc20 : lw_tbl[698]? = some (Cond.code (mY 20) (mB 20) (mL 20) (mR 20)) := rfl
set_option maxRecDepth 100000 in
theorem mc21 : lw_tbl[715]? = some (Cond.code (mY 21) (mB 21) (mL 21) (mR 21)) := rfl
set_option maxRecDepth 100000 in
theorem mc22 : lw_tbl[741]? = some (Cond.code (mY 22) (mB 22) (mL 22) (mR 22)) := rfl
set_option maxRecDepth 100000 in
theorem mc23 : lw_tbl[745]? = some (Cond.code (mY 23) (mB 23) (mL 23) (mR 23)) := rfl
set_option maxRecDepth 100000 in
theorem mc24 : lw_tbl[762]? = some (Cond.code (mY 24) (mB 24) (mL 24) (mR 24)) := rfl
set_option maxRecDepth 100000 in
theorem mc25 : lw_tbl[776]? = some (Cond.code (mY 25) (mB 25) (mL 25) (mR 25)) := rfl
set_option maxRecDepth 100000 in
theorem mc26 : lw_tbl[766]? = some (Cond.code (mY 26) (mB 26) (mL 26) (mR 26)) := rfl
set_option maxRecDepth 100000 in
theorem mc27 : lw_tbl[771]? = some (Cond.code (mY 27) (mB 27) (mL 27) (mR 27)) := rfl
set_option maxRecDepth 100000 in
theorem mc28 : lw_tbl[784]? = some (Cond.code (mY 28) (mB 28) (mL 28) (mR 28)) := rfl
set_option maxRecDepth 100000 in
theorem mc29 : lw_tbl[792]? = some (Cond.code (mY 29) (mB 29) (mL 29) (mR 29)) := rfl
set_option maxRecDepth 100000 in
theorem mc30 : lw_tbl[800]? = some (Cond.code (mY 30) (mB 30) (mL 30) (mR 30)) := rfl
set_option maxRecDepth 100000 in
theorem mc31 : lw_tbl[824]? = some (Cond.code (mY 31) (mB 31) (mL 31) (mR 31)) := rfl
set_option maxRecDepth 100000 in
theorem mc32 : lw_tbl[828]? = some (Cond.code (mY 32) (mB 32) (mL 32) (mR 32)) := rfl
set_option maxRecDepth 100000 in
theorem mc33 : lw_tbl[836]? = some (Cond.code (mY 33) (mB 33) (mL 33) (mR 33)) := rfl
set_option maxRecDepth 100000 in
theorem mc34 : lw_tbl[840]? = some (Cond.code (mY 34) (mB 34) (mL 34) (mR 34)) := rfl
set_option maxRecDepth 100000 in
theorem mc35 : lw_tbl[844]? = some (Cond.code (mY 35) (mB 35) (mL 35) (mR 35)) := rfl
set_option maxRecDepth 100000 in
theorem mc36 : lw_tbl[852]? = some (Cond.code (mY 36) (mB 36) (mL 36) (mR 36)) := rfl
set_option maxRecDepth 100000 in
theorem mc37 : lw_tbl[856]? = some (Cond.code (mY 37) (mB 37) (mL 37) (mR 37)) := rfl
set_option maxRecDepth 100000 in
theorem mc38 : lw_tbl[865]? = some (Cond.code (mY 38) (mB 38) (mL 38) (mR 38)) := rfl
set_option maxRecDepth 100000 in
theorem mc39 : lw_tbl[868]? = some (Cond.code (mY 39) (mB 39) (mL 39) (mR 39)) := rfl
set_option maxRecDepth 100000 in
theorem mc40 : lw_tbl[877]? = some (Cond.code (mY 40) (mB 40) (mL 40) (mR 40)) := rfl
set_option maxRecDepth 100000 in
theorem mc41 : lw_tbl[883]? = some (Cond.code (mY 41) (mB 41) (mL 41) (mR 41)) := rfl
set_option maxRecDepth 100000 in
theorem mc42 : lw_tbl[118]? = some (Cond.code (mY 42) (mB 42) (mL 42) (mR 42)) := rfl
set_option maxRecDepth 100000 in
theorem mc43 : lw_tbl[954]? = some (Cond.code (mY 43) (mB 43) (mL 43) (mR 43)) := rfl
set_option maxRecDepth 100000 in
theorem mc44 : lw_tbl[937]? = some (Cond.code (mY 44) (mB 44) (mL 44) (mR 44)) := rfl
set_option maxRecDepth 100000 in
theorem mc45 : lw_tbl[90]? = some (Cond.code (mY 45) (mB 45) (mL 45) (mR 45)) := rfl
set_option maxRecDepth 100000 in
theorem mc46 : lw_tbl[375]? = some (Cond.code (mY 46) (mB 46) (mL 46) (mR 46)) := rfl
set_option maxRecDepth 100000 in
theorem mc47 : lw_tbl[379]? = some (Cond.code (mY 47) (mB 47) (mL 47) (mR 47)) := rfl
set_option maxRecDepth 100000 in
theorem mc48 : lw_tbl[446]? = some (Cond.code (mY 48) (mB 48) (mL 48) (mR 48)) := rfl
set_option maxRecDepth 100000 in
theorem mc49 : lw_tbl[402]? = some (Cond.code (mY 49) (mB 49) (mL 49) (mR 49)) := rfl
set_option maxRecDepth 100000 in
theorem mc50 : lw_tbl[529]? = some (Cond.code (mY 50) (mB 50) (mL 50) (mR 50)) := rfl
set_option maxRecDepth 100000 in
theorem mc51 : lw_tbl[533]? = some (Cond.code (mY 51) (mB 51) (mL 51) (mR 51)) := rfl
set_option maxRecDepth 100000 in
theorem mc52 : lw_tbl[115]? = some (Cond.code (mY 52) (mB 52) (mL 52) (mR 52)) := rfl
set_option maxRecDepth 100000 in
theorem mc53 : lw_tbl[514]? = some (Cond.code (mY 53) (mB 53) (mL 53) (mR 53)) := rfl
set_option maxRecDepth 100000 in
theorem mc54 : lw_tbl[603]? = some (Cond.code (mY 54) (mB 54) (mL 54) (mR 54)) := rfl
set_option maxRecDepth 100000 in
theorem mc55 : lw_tbl[622]? = some (Cond.code (mY 55) (mB 55) (mL 55) (mR 55)) := rfl
set_option maxRecDepth 100000 in
theorem mc56 : lw_tbl[917]? = some (Cond.code (mY 56) (mB 56) (mL 56) (mR 56)) := rfl
set_option maxRecDepth 100000 in
theorem mc57 : lw_tbl[934]? = some (Cond.code (mY 57) (mB 57) (mL 57) (mR 57)) := rfl
set_option maxRecDepth 100000 in
theorem mc58 : lw_tbl[593]? = some (Cond.code (mY 58) (mB 58) (mL 58) (mR 58)) := rfl
set_option maxRecDepth 100000 in
theorem mc59 : lw_tbl[257]? = some (Cond.code (mY 59) (mB 59) (mL 59) (mR 59)) := rfl
set_option maxRecDepth 100000 in
theorem mc60 : lw_tbl[422]? = some (Cond.code (mY 60) (mB 60) (mL 60) (mR 60)) := rfl
set_option maxRecDepth 100000 in
theorem mc61 : lw_tbl[492]? = some (Cond.code (mY 61) (mB 61) (mL 61) (mR 61)) := rfl
set_option maxRecDepth 100000 in
theorem mc62 : lw_tbl[430]? = some (Cond.code (mY 62) (mB 62) (mL 62) (mR 62)) := rfl
set_option maxRecDepth 100000 in
theorem mc63 : lw_tbl[462]? = some (Cond.code (mY 63) (mB 63) (mL 63) (mR 63)) := rfl
set_option maxRecDepth 100000 in
theorem mc64 : lw_tbl[469]? = some (Cond.code (mY 64) (mB 64) (mL 64) (mR 64)) := rfl
set_option maxRecDepth 100000 in
theorem mc65 : lw_tbl[478]? = some (Cond.code (mY 65) (mB 65) (mL 65) (mR 65)) := rfl
set_option maxRecDepth 100000 in
theorem mc66 : lw_tbl[482]? = some (Cond.code (mY 66) (mB 66) (mL 66) (mR 66)) := rfl
set_option maxRecDepth 100000 in
theorem mc67 : lw_tbl[434]? = some (Cond.code (mY 67) (mB 67) (mL 67) (mR 67)) := rfl
set_option maxRecDepth 100000 in
theorem mc68 : lw_tbl[455]? = some (Cond.code (mY 68) (mB 68) (mL 68) (mR 68)) := rfl
set_option maxRecDepth 100000 in
theorem mc69 : lw_tbl[438]? = some (Cond.code (mY 69) (mB 69) (mL 69) (mR 69)) := rfl
set_option maxRecDepth 100000 in
theorem mc70 : lw_tbl[442]? = some (Cond.code (mY 70) (mB 70) (mL 70) (mR 70)) := rfl
set_option maxRecDepth 100000 in
theorem mc71 : lw_tbl[458]? = some (Cond.code (mY 71) (mB 71) (mL 71) (mR 71)) := rfl
set_option maxRecDepth 100000 in
theorem mc72 : lw_tbl[465]? = some (Cond.code (mY 72) (mB 72) (mL 72) (mR 72)) := rfl
set_option maxRecDepth 100000 in
theorem mc73 : lw_tbl[451]? = some (Cond.code (mY 73) (mB 73) (mL 73) (mR 73)) := rfl
set_option maxRecDepth 100000 in
theorem mc74 : lw_tbl[125]? = some (Cond.code (mY 74) (mB 74) (mL 74) (mR 74)) := rfl
set_option maxRecDepth 100000 in
theorem mc75 : lw_tbl[517]? = some (Cond.code (mY 75) (mB 75) (mL 75) (mR 75)) := rfl
set_option maxRecDepth 100000 in
theorem mc76 : lw_tbl[607]? = some (Cond.code (mY 76) (mB 76) (mL 76) (mR 76)) := rfl
set_option maxRecDepth 100000 in
theorem mc77 : lw_tbl[951]? = some (Cond.code (mY 77) (mB 77) (mL 77) (mR 77)) := rfl
set_option maxRecDepth 100000 in
theorem mc78 : lw_tbl[931]? = some (Cond.code (mY 78) (mB 78) (mL 78) (mR 78)) := rfl
set_option maxRecDepth 100000 in
theorem mc79 : lw_tbl[153]? = some (Cond.code (mY 79) (mB 79) (mL 79) (mR 79)) := rfl
set_option maxRecDepth 100000 in
theorem mc80 : lw_tbl[426]? = some (Cond.code (mY 80) (mB 80) (mL 80) (mR 80)) := rfl
set_option maxRecDepth 100000 in
theorem mc81 : lw_tbl[473]? = some (Cond.code (mY 81) (mB 81) (mL 81) (mR 81)) := rfl
set_option maxRecDepth 100000 in
theorem mc82 : lw_tbl[486]? = some (Cond.code (mY 82) (mB 82) (mL 82) (mR 82)) := rfl
set_option maxRecDepth 100000 in
theorem mc83 : lw_tbl[690]? = some (Cond.code (mY 83) (mB 83) (mL 83) (mR 83)) := rfl
set_option maxRecDepth 100000 in
theorem mc84 : lw_tbl[558]? = some (Cond.code (mY 84) (mB 84) (mL 84) (mR 84)) := rfl
set_option maxRecDepth 100000 in
theorem mc85 : lw_tbl[554]? = some (Cond.code (mY 85) (mB 85) (mL 85) (mR 85)) := rfl
set_option maxRecDepth 100000 in
theorem mc86 : lw_tbl[562]? = some (Cond.code (mY 86) (mB 86) (mL 86) (mR 86)) := rfl
set_option maxRecDepth 100000 in
theorem mc87 : lw_tbl[566]? = some (Cond.code (mY 87) (mB 87) (mL 87) (mR 87)) := rfl
set_option maxRecDepth 100000 in
theorem mc88 : lw_tbl[576]? = some (Cond.code (mY 88) (mB 88) (mL 88) (mR 88)) := rfl
set_option maxRecDepth 100000 in
theorem mc89 : lw_tbl[632]? = some (Cond.code (mY 89) (mB 89) (mL 89) (mR 89)) := rfl
set_option maxRecDepth 100000 in
theorem mc90 : lw_tbl[640]? = some (Cond.code (mY 90) (mB 90) (mL 90) (mR 90)) := rfl
set_option maxRecDepth 100000 in
theorem mc91 : lw_tbl[653]? = some (Cond.code (mY 91) (mB 91) (mL 91) (mR 91)) := rfl
set_option maxRecDepth 100000 in
theorem mc92 : lw_tbl[658]? = some (Cond.code (mY 92) (mB 92) (mL 92) (mR 92)) := rfl
set_option maxRecDepth 100000 in
theorem mc93 : lw_tbl[662]? = some (Cond.code (mY 93) (mB 93) (mL 93) (mR 93)) := rfl
set_option maxRecDepth 100000 in
theorem mc94 : lw_tbl[669]? = some (Cond.code (mY 94) (mB 94) (mL 94) (mR 94)) := rfl
set_option maxRecDepth 100000 in
theorem mc95 : lw_tbl[808]? = some (Cond.code (mY 95) (mB 95) (mL 95) (mR 95)) := rfl
set_option maxRecDepth 100000 in
theorem mc96 : lw_tbl[812]? = some (Cond.code (mY 96) (mB 96) (mL 96) (mR 96)) := rfl
set_option maxRecDepth 100000 in
theorem mc97 : lw_tbl[860]? = some (Cond.code (mY 97) (mB 97) (mL 97) (mR 97)) := rfl
set_option maxRecDepth 100000 in
theorem mc98 : lw_tbl[719]? = some (Cond.code (mY 98) (mB 98) (mL 98) (mR 98)) := rfl
set_option maxRecDepth 100000 in
theorem mc99 : lw_tbl[730]? = some (Cond.code (mY 99) (mB 99) (mL 99) (mR 99)) := rfl
set_option maxRecDepth 100000 in
theorem mc100 : lw_tbl[887]? = some (Cond.code (mY 100) (mB 100) (mL 100) (mR 100)) := rfl
set_option maxRecDepth 100000 in
theorem mc101 : lw_tbl[496]? = some (Cond.code (mY 101) (mB 101) (mL 101) (mR 101)) := rfl
set_option maxRecDepth 100000 in
theorem mc102 : lw_tbl[525]? = some (Cond.code (mY 102) (mB 102) (mL 102) (mR 102)) := rfl
set_option maxRecDepth 100000 in
theorem mc103 : lw_tbl[139]? = some (Cond.code (mY 103) (mB 103) (mL 103) (mR 103)) := rfl
set_option maxRecDepth 100000 in
theorem mc104 : lw_tbl[520]? = some (Cond.code (mY 104) (mB 104) (mL 104) (mR 104)) := rfl
set_option maxRecDepth 100000 in
theorem mc105 : lw_tbl[599]? = some (Cond.code (mY 105) (mB 105) (mL 105) (mR 105)) := rfl
set_option maxRecDepth 100000 in
theorem mc106 : lw_tbl[625]? = some (Cond.code (mY 106) (mB 106) (mL 106) (mR 106)) := rfl
set_option maxRecDepth 100000 in
theorem mc107 : lw_tbl[945]? = some (Cond.code (mY 107) (mB 107) (mL 107) (mR 107)) := rfl
set_option maxRecDepth 100000 in
theorem mc108 : lw_tbl[957]? = some (Cond.code (mY 108) (mB 108) (mL 108) (mR 108)) := rfl
set_option maxRecDepth 100000 in
theorem mc109 : lw_tbl[81]? = some (Cond.code (mY 109) (mB 109) (mL 109) (mR 109)) := rfl
set_option maxRecDepth 100000 in
theorem mc110 : lw_tbl[359]? = some (Cond.code (mY 110) (mB 110) (mL 110) (mR 110)) := rfl
set_option maxRecDepth 100000 in
theorem mc111 : lw_tbl[387]? = some (Cond.code (mY 111) (mB 111) (mL 111) (mR 111)) := rfl
set_option maxRecDepth 100000 in
theorem mc112 : lw_tbl[398]? = some (Cond.code (mY 112) (mB 112) (mL 112) (mR 112)) := rfl
set_option maxRecDepth 100000 in
theorem mc113 : lw_tbl[409]? = some (Cond.code (mY 113) (mB 113) (mL 113) (mR 113)) := rfl
set_option maxRecDepth 100000 in
theorem mc114 : lw_tbl[413]? = some (Cond.code (mY 114) (mB 114) (mL 114) (mR 114)) := rfl
set_option maxRecDepth 100000 in
theorem mc115 : lw_tbl[418]? = some (Cond.code (mY 115) (mB 115) (mL 115) (mR 115)) := rfl
set_option maxRecDepth 100000 in
theorem mc116 : lw_tbl[546]? = some (Cond.code (mY 116) (mB 116) (mL 116) (mR 116)) := rfl
set_option maxRecDepth 100000 in
theorem mc117 : lw_tbl[550]? = some (Cond.code (mY 117) (mB 117) (mL 117) (mR 117)) := rfl
set_option maxRecDepth 100000 in
theorem mc118 : lw_tbl[636]? = some (Cond.code (mY 118) (mB 118) (mL 118) (mR 118)) := rfl
set_option maxRecDepth 100000 in
theorem mc119 : lw_tbl[645]? = some (Cond.code (mY 119) (mB 119) (mL 119) (mR 119)) := rfl
set_option maxRecDepth 100000 in
theorem mc120 : lw_tbl[649]? = some (Cond.code (mY 120) (mB 120) (mL 120) (mR 120)) := rfl
set_option maxRecDepth 100000 in
theorem mc121 : lw_tbl[674]? = some (Cond.code (mY 121) (mB 121) (mL 121) (mR 121)) := rfl
set_option maxRecDepth 100000 in
theorem mc122 : lw_tbl[678]? = some (Cond.code (mY 122) (mB 122) (mL 122) (mR 122)) := rfl
set_option maxRecDepth 100000 in
theorem mc123 : lw_tbl[682]? = some (Cond.code (mY 123) (mB 123) (mL 123) (mR 123)) := rfl
set_option maxRecDepth 100000 in
theorem mc124 : lw_tbl[686]? = some (Cond.code (mY 124) (mB 124) (mL 124) (mR 124)) := rfl
set_option maxRecDepth 100000 in
theorem mc125 : lw_tbl[694]? = some (Cond.code (mY 125) (mB 125) (mL 125) (mR 125)) := rfl
set_option maxRecDepth 100000 in
theorem mc126 : lw_tbl[711]? = some (Cond.code (mY 126) (mB 126) (mL 126) (mR 126)) := rfl
set_option maxRecDepth 100000 in
theorem mc127 : lw_tbl[758]? = some (Cond.code (mY 127) (mB 127) (mL 127) (mR 127)) := rfl
set_option maxRecDepth 100000 in
theorem mc128 : lw_tbl[780]? = some (Cond.code (mY 128) (mB 128) (mL 128) (mR 128)) := rfl
set_option maxRecDepth 100000 in
theorem mc129 : lw_tbl[788]? = some (Cond.code (mY 129) (mB 129) (mL 129) (mR 129)) := rfl
set_option maxRecDepth 100000 in
theorem mc130 : lw_tbl[804]? = some (Cond.code (mY 130) (mB 130) (mL 130) (mR 130)) := rfl
set_option maxRecDepth 100000 in
theorem mc131 : lw_tbl[816]? = some (Cond.code (mY 131) (mB 131) (mL 131) (mR 131)) := rfl
set_option maxRecDepth 100000 in
theorem mc132 : lw_tbl[832]? = some (Cond.code (mY 132) (mB 132) (mL 132) (mR 132)) := rfl
set_option maxRecDepth 100000 in
theorem mc133 : lw_tbl[848]? = some (Cond.code (mY 133) (mB 133) (mL 133) (mR 133)) := rfl
set_option maxRecDepth 100000 in
theorem mc134 : lw_tbl[872]? = some (Cond.code (mY 134) (mB 134) (mL 134) (mR 134)) := rfl
set_option maxRecDepth 100000 in
theorem mc135 : lw_tbl[891]? = some (Cond.code (mY 135) (mB 135) (mL 135) (mR 135)) := rfl
set_option maxRecDepth 100000 in
theorem mc136 : lw_tbl[895]? = some (Cond.code (mY 136) (mB 136) (mL 136) (mR 136)) := rfl
set_option maxRecDepth 100000 in
theorem mc137 : lw_tbl[899]? = some (Cond.code (mY 137) (mB 137) (mL 137) (mR 137)) := rfl
set_option maxRecDepth 100000 in
theorem mc138 : lw_tbl[904]? = some (Cond.code (mY 138) (mB 138) (mL 138) (mR 138)) := rfl
set_option maxRecDepth 100000 in
theorem mc139 : lw_tbl[911]? = some (Cond.code (mY 139) (mB 139) (mL 139) (mR 139)) := rfl
set_option maxRecDepth 100000 in
theorem mc140 : lw_tbl[963]? = some (Cond.code (mY 140) (mB 140) (mL 140) (mR 140)) := rfl
set_option maxRecDepth 100000 in
theorem mc141 : lw_tbl[968]? = some (Cond.code (mY 141) (mB 141) (mL 141) (mR 141)) := rfl
set_option maxRecDepth 100000 in
theorem mc142 : lw_tbl[978]? = some (Cond.code (mY 142) (mB 142) (mL 142) (mR 142)) := rfl
set_option maxRecDepth 100000 in
theorem mc143 : lw_tbl[365]? = some (Cond.code (mY 143) (mB 143) (mL 143) (mR 143)) := rfl
set_option maxRecDepth 100000 in
theorem mc144 : lw_tbl[362]? = some (Cond.code (mY 144) (mB 144) (mL 144) (mR 144)) := rfl
set_option maxRecDepth 100000 in
theorem mc145 : lw_tbl[391]? = some (Cond.code (mY 145) (mB 145) (mL 145) (mR 145)) := rfl
set_option maxRecDepth 100000 in
theorem mc146 : lw_tbl[972]? = some (Cond.code (mY 146) (mB 146) (mL 146) (mR 146)) := rfl
set_option maxRecDepth 100000 in
theorem mc147 : lw_tbl[394]? = some (Cond.code (mY 147) (mB 147) (mL 147) (mR 147)) := rfl
set_option maxRecDepth 100000 in
theorem mc148 : lw_tbl[820]? = some (Cond.code (mY 148) (mB 148) (mL 148) (mR 148)) := rfl
set_option maxRecDepth 100000 in
theorem mc149 : lw_tbl[370]? = some (Cond.code (mY 149) (mB 149) (mL 149) (mR 149)) := rfl
set_option maxRecDepth 100000 in
theorem mc150 : lw_tbl[383]? = some (Cond.code (mY 150) (mB 150) (mL 150) (mR 150)) := rfl
set_option maxRecDepth 100000 in
theorem mc151 : lw_tbl[571]? = some (Cond.code (mY 151) (mB 151) (mL 151) (mR 151)) := rfl
set_option maxRecDepth 100000 in
theorem mc152 : lw_tbl[542]? = some (Cond.code (mY 152) (mB 152) (mL 152) (mR 152)) := rfl
set_option maxRecDepth 100000 in
theorem mc153 : lw_tbl[907]? = some (Cond.code (mY 153) (mB 153) (mL 153) (mR 153)) := rfl
set_option maxRecDepth 100000 in
theorem mc154 : lw_tbl[983]? = some (Cond.code (mY 154) (mB 154) (mL 154) (mR 154)) := rfl
set_option maxRecDepth 100000 in
theorem mc155 : lw_tbl[1069]? = some (Cond.code (mY 155) (mB 155) (mL 155) (mR 155)) := rfl
set_option maxRecDepth 100000 in
theorem mc156 : lw_tbl[1279]? = some (Cond.code (mY 156) (mB 156) (mL 156) (mR 156)) := rfl
set_option maxRecDepth 100000 in
theorem mc157 : lw_tbl[1074]? = some (Cond.code (mY 157) (mB 157) (mL 157) (mR 157)) := rfl
set_option maxRecDepth 100000 in
theorem mc158 : lw_tbl[1079]? = some (Cond.code (mY 158) (mB 158) (mL 158) (mR 158)) := rfl
set_option maxRecDepth 100000 in
theorem mc159 : lw_tbl[1154]? = some (Cond.code (mY 159) (mB 159) (mL 159) (mR 159)) := rfl
set_option maxRecDepth 100000 in
theorem mc160 : lw_tbl[1066]? = some (Cond.code (mY 160) (mB 160) (mL 160) (mR 160)) := rfl
set_option maxRecDepth 100000 in
theorem mc161 : lw_tbl[1087]? = some (Cond.code (mY 161) (mB 161) (mL 161) (mR 161)) := rfl
set_option maxRecDepth 100000 in
theorem mc162 : lw_tbl[1090]? = some (Cond.code (mY 162) (mB 162) (mL 162) (mR 162)) := rfl
set_option maxRecDepth 100000 in
theorem mc163 : lw_tbl[1063]? = some (Cond.code (mY 163) (mB 163) (mL 163) (mR 163)) := rfl
set_option maxRecDepth 100000 in
theorem mc164 : lw_tbl[1083]? = some (Cond.code (mY 164) (mB 164) (mL 164) (mR 164)) := rfl
set_option maxRecDepth 100000 in
theorem mc165 : lw_tbl[1098]? = some (Cond.code (mY 165) (mB 165) (mL 165) (mR 165)) := rfl
set_option maxRecDepth 100000 in
theorem mc166 : lw_tbl[1094]? = some (Cond.code (mY 166) (mB 166) (mL 166) (mR 166)) := rfl
set_option maxRecDepth 100000 in
theorem mc167 : lw_tbl[1102]? = some (Cond.code (mY 167) (mB 167) (mL 167) (mR 167)) := rfl
set_option maxRecDepth 100000 in
theorem mc168 : lw_tbl[1106]? = some (Cond.code (mY 168) (mB 168) (mL 168) (mR 168)) := rfl
set_option maxRecDepth 100000 in
theorem mc169 : lw_tbl[1119]? = some (Cond.code (mY 169) (mB 169) (mL 169) (mR 169)) := rfl
set_option maxRecDepth 100000 in
theorem mc170 : lw_tbl[1115]? = some (Cond.code (mY 170) (mB 170) (mL 170) (mR 170)) := rfl
set_option maxRecDepth 100000 in
theorem mc171 : lw_tbl[1127]? = some (Cond.code (mY 171) (mB 171) (mL 171) (mR 171)) := rfl
set_option maxRecDepth 100000 in
theorem mc172 : lw_tbl[1123]? = some (Cond.code (mY 172) (mB 172) (mL 172) (mR 172)) := rfl
set_option maxRecDepth 100000 in
theorem mc173 : lw_tbl[1131]? = some (Cond.code (mY 173) (mB 173) (mL 173) (mR 173)) := rfl
set_option maxRecDepth 100000 in
theorem mc174 : lw_tbl[1134]? = some (Cond.code (mY 174) (mB 174) (mL 174) (mR 174)) := rfl
set_option maxRecDepth 100000 in
theorem mc175 : lw_tbl[1146]? = some (Cond.code (mY 175) (mB 175) (mL 175) (mR 175)) := rfl
set_option maxRecDepth 100000 in
theorem mc176 : lw_tbl[1142]? = some (Cond.code (mY 176) (mB 176) (mL 176) (mR 176)) := rfl
set_option maxRecDepth 100000 in
theorem mc177 : lw_tbl[1150]? = some (Cond.code (mY 177) (mB 177) (mL 177) (mR 177)) := rfl
set_option maxRecDepth 100000 in
theorem mc178 : lw_tbl[1138]? = some (Cond.code (mY 178) (mB 178) (mL 178) (mR 178)) := rfl
set_option maxRecDepth 100000 in
theorem mc179 : lw_tbl[1111]? = some (Cond.code (mY 179) (mB 179) (mL 179) (mR 179)) := rfl
set_option maxRecDepth 100000 in
theorem mc180 : lw_tbl[1158]? = some (Cond.code (mY 180) (mB 180) (mL 180) (mR 180)) := rfl
set_option maxRecDepth 100000 in
theorem mc181 : lw_tbl[1228]? = some (Cond.code (mY 181) (mB 181) (mL 181) (mR 181)) := rfl
set_option maxRecDepth 100000 in
theorem mc182 : lw_tbl[1170]? = some (Cond.code (mY 182) (mB 182) (mL 182) (mR 182)) := rfl
set_option maxRecDepth 100000 in
theorem mc183 : lw_tbl[1166]? = some (Cond.code (mY 183) (mB 183) (mL 183) (mR 183)) := rfl
set_option maxRecDepth 100000 in
theorem mc184 : lw_tbl[1190]? = some (Cond.code (mY 184) (mB 184) (mL 184) (mR 184)) := rfl
set_option maxRecDepth 100000 in
theorem mc185 : lw_tbl[1187]? = some (Cond.code (mY 185) (mB 185) (mL 185) (mR 185)) := rfl
set_option maxRecDepth 100000 in
theorem mc186 : lw_tbl[1184]? = some (Cond.code (mY 186) (mB 186) (mL 186) (mR 186)) := rfl
set_option maxRecDepth 100000 in
theorem mc187 : lw_tbl[1173]? = some (Cond.code (mY 187) (mB 187) (mL 187) (mR 187)) := rfl
set_option maxRecDepth 100000 in
theorem mc188 : lw_tbl[1181]? = some (Cond.code (mY 188) (mB 188) (mL 188) (mR 188)) := rfl
set_option maxRecDepth 100000 in
theorem mc189 : lw_tbl[1205]? = some (Cond.code (mY 189) (mB 189) (mL 189) (mR 189)) := rfl
set_option maxRecDepth 100000 in
theorem mc190 : lw_tbl[1208]? = some (Cond.code (mY 190) (mB 190) (mL 190) (mR 190)) := rfl
set_option maxRecDepth 100000 in
theorem mc191 : lw_tbl[1178]? = some (Cond.code (mY 191) (mB 191) (mL 191) (mR 191)) := rfl
set_option maxRecDepth 100000 in
theorem mc192 : lw_tbl[1162]? = some (Cond.code (mY 192) (mB 192) (mL 192) (mR 192)) := rfl
set_option maxRecDepth 100000 in
theorem mc193 : lw_tbl[1194]? = some (Cond.code (mY 193) (mB 193) (mL 193) (mR 193)) := rfl
set_option maxRecDepth 100000 in
theorem mc194 : lw_tbl[1198]? = some (Cond.code (mY 194) (mB 194) (mL 194) (mR 194)) := rfl
set_option maxRecDepth 100000 in
theorem mc195 : lw_tbl[1202]? = some (Cond.code (mY 195) (mB 195) (mL 195) (mR 195)) := rfl
set_option maxRecDepth 100000 in
theorem mc196 : lw_tbl[1212]? = some (Cond.code (mY 196) (mB 196) (mL 196) (mR 196)) := rfl
set_option maxRecDepth 100000 in
theorem mc197 : lw_tbl[1216]? = some (Cond.code (mY 197) (mB 197) (mL 197) (mR 197)) := rfl
set_option maxRecDepth 100000 in
theorem mc198 : lw_tbl[1220]? = some (Cond.code (mY 198) (mB 198) (mL 198) (mR 198)) := rfl
set_option maxRecDepth 100000 in
theorem mc199 : lw_tbl[1224]? = some (Cond.code (mY 199) (mB 199) (mL 199) (mR 199)) := rfl
set_option maxRecDepth 100000 in
theorem mc200 : lw_tbl[1232]? = some (Cond.code (mY 200) (mB 200) (mL 200) (mR 200)) := rfl
set_option maxRecDepth 100000 in
theorem mc201 : lw_tbl[1244]? = some (Cond.code (mY 201) (mB 201) (mL 201) (mR 201)) := rfl
set_option maxRecDepth 100000 in
theorem mc202 : lw_tbl[1240]? = some (Cond.code (mY 202) (mB 202) (mL 202) (mR 202)) := rfl
set_option maxRecDepth 100000 in
theorem mc203 : lw_tbl[1236]? = some (Cond.code (mY 203) (mB 203) (mL 203) (mR 203)) := rfl
set_option maxRecDepth 100000 in
theorem mc204 : lw_tbl[1248]? = some (Cond.code (mY 204) (mB 204) (mL 204) (mR 204)) := rfl
set_option maxRecDepth 100000 in
theorem mc205 : lw_tbl[1252]? = some (Cond.code (mY 205) (mB 205) (mL 205) (mR 205)) := rfl
set_option maxRecDepth 100000 in
theorem mc206 : lw_tbl[1260]? = some (Cond.code (mY 206) (mB 206) (mL 206) (mR 206)) := rfl
set_option maxRecDepth 100000 in
theorem mc207 : lw_tbl[1256]? = some (Cond.code (mY 207) (mB 207) (mL 207) (mR 207)) := rfl
set_option maxRecDepth 100000 in
theorem mc208 : lw_tbl[1264]? = some (Cond.code (mY 208) (mB 208) (mL 208) (mR 208)) := rfl
set_option maxRecDepth 100000 in
theorem mc209 : lw_tbl[1268]? = some (Cond.code (mY 209) (mB 209) (mL 209) (mR 209)) := rfl
set_option maxRecDepth 100000 in
theorem mc210 : lw_tbl[1272]? = some (Cond.code (mY 210) (mB 210) (mL 210) (mR 210)) := rfl
set_option maxRecDepth 100000 in
theorem mc211 : lw_tbl[1283]? = some (Cond.code (mY 211) (mB 211) (mL 211) (mR 211)) := rfl
set_option maxRecDepth 100000 in
theorem mc212 : lw_tbl[1276]? = some (Cond.code (mY 212) (mB 212) (mL 212) (mR 212)) := rfl
set_option maxRecDepth 100000 in
theorem mc213 : lw_tbl[1287]? = some (Cond.code (mY 213) (mB 213) (mL 213) (mR 213)) := rfl
set_option maxRecDepth 100000 in
theorem mc214 : lw_tbl[1294]? = some (Cond.code (mY 214) (mB 214) (mL 214) (mR 214)) := rfl
set_option maxRecDepth 100000 in
theorem mc215 : lw_tbl[1298]? = some (Cond.code (mY 215) (mB 215) (mL 215) (mR 215)) := rfl
set_option maxRecDepth 100000 in
theorem mc216 : lw_tbl[1306]? = some (Cond.code (mY 216) (mB 216) (mL 216) (mR 216)) := rfl
set_option maxRecDepth 100000 in
theorem mc217 : lw_tbl[1302]? = some (Cond.code (mY 217) (mB 217) (mL 217) (mR 217)) := rfl
set_option maxRecDepth 100000 in
theorem mc218 : lw_tbl[1310]? = some (Cond.code (mY 218) (mB 218) (mL 218) (mR 218)) := rfl
set_option maxRecDepth 100000 in
theorem mc219 : lw_tbl[1322]? = some (Cond.code (mY 219) (mB 219) (mL 219) (mR 219)) := rfl
set_option maxRecDepth 100000 in
theorem mc220 : lw_tbl[1330]? = some (Cond.code (mY 220) (mB 220) (mL 220) (mR 220)) := rfl
set_option maxRecDepth 100000 in
theorem mc221 : lw_tbl[1318]? = some (Cond.code (mY 221) (mB 221) (mL 221) (mR 221)) := rfl
set_option maxRecDepth 100000 in
theorem mc222 : lw_tbl[1326]? = some (Cond.code (mY 222) (mB 222) (mL 222) (mR 222)) := rfl
set_option maxRecDepth 100000 in
theorem mc223 : lw_tbl[1334]? = some (Cond.code (mY 223) (mB 223) (mL 223) (mR 223)) := rfl
set_option maxRecDepth 100000 in
theorem mc224 : lw_tbl[1314]? = some (Cond.code (mY 224) (mB 224) (mL 224) (mR 224)) := rfl
set_option maxRecDepth 100000 in
theorem mc225 : lw_tbl[1338]? = some (Cond.code (mY 225) (mB 225) (mL 225) (mR 225)) := rfl
set_option maxRecDepth 100000 in
theorem mc226 : lw_tbl[1346]? = some (Cond.code (mY 226) (mB 226) (mL 226) (mR 226)) := rfl
set_option maxRecDepth 100000 in
theorem mc227 : lw_tbl[1350]? = some (Cond.code (mY 227) (mB 227) (mL 227) (mR 227)) := rfl
set_option maxRecDepth 100000 in
theorem mc228 : lw_tbl[1342]? = some (Cond.code (mY 228) (mB 228) (mL 228) (mR 228)) := rfl
set_option maxRecDepth 100000 in
theorem mc229 : lw_tbl[1354]? = some (Cond.code (mY 229) (mB 229) (mL 229) (mR 229)) := rfl
theorem mT_code (m : Nat) (h : m < 230) : Cond.code (mY m) (mB m) (mL m) (mR m) ∈ jW := by
  match m, h with
  | 0, _ => exact jW_mem mc0 rfl
  | 1, _ => exact jW_mem mc1 rfl
  | 2, _ => exact jW_mem mc2 rfl
  | 3, _ => exact jW_mem mc3 rfl
  | 4, _ => exact jW_mem mc4 rfl
  | 5, _ => exact jW_mem mc5 rfl
  | 6, _ => exact jW_mem mc6 rfl
  | 7, _ => exact jW_mem mc7 rfl
  | 8, _ => exact jW_mem mc8 rfl
  | 9, _ => exact jW_mem mc9 rfl
  | 10, _ => exact jW_mem mc10 rfl
  | 11, _ => exact jW_mem mc11 rfl
  | 12, _ => exact jW_mem mc12 rfl
  | 13, _ => exact jW_mem mc13 rfl
  | 14, _ => exact jW_mem mc14 rfl
  | 15, _ => exact jW_mem mc15 rfl
  | 16, _ => exact jW_mem mc16 rfl
  | 17, _ => exact jW_mem mc17 rfl
  | 18, _ => exact jW_mem mc18 rfl
  | 19, _ => exact jW_mem mc19 rfl
  | 20, _ => exact jW_mem mc20 rfl
  | 21, _ => exact jW_mem mc21 rfl
  | 22, _ => exact jW_mem mc22 rfl
  | 23, _ => exact jW_mem mc23 rfl
  | 24, _ => exact jW_mem mc24 rfl
  | 25, _ => exact jW_mem mc25 rfl
  | 26, _ => exact jW_mem mc26 rfl
  | 27, _ => exact jW_mem mc27 rfl
  | 28, _ => exact jW_mem mc28 rfl
  | 29, _ => exact jW_mem mc29 rfl
  | 30, _ => exact jW_mem mc30 rfl
  | 31, _ => exact jW_mem mc31 rfl
  | 32, _ => exact jW_mem mc32 rfl
  | 33, _ => exact jW_mem mc33 rfl
  | 34, _ => exact jW_mem mc34 rfl
  | 35, _ => exact jW_mem mc35 rfl
  | 36, _ => exact jW_mem mc36 rfl
  | 37, _ => exact jW_mem mc37 rfl
  | 38, _ => exact jW_mem mc38 rfl
  | 39, _ => exact jW_mem mc39 rfl
  | 40, _ => exact jW_mem mc40 rfl
  | 41, _ => exact jW_mem mc41 rfl
  | 42, _ => exact jW_mem mc42 rfl
  | 43, _ => exact jW_mem mc43 rfl
  | 44, _ => exact jW_mem mc44 rfl
  | 45, _ => exact jW_mem mc45 rfl
  | 46, _ => exact jW_mem mc46 rfl
  | 47, _ => exact jW_mem mc47 rfl
  | 48, _ => exact jW_mem mc48 rfl
  | 49, _ => exact jW_mem mc49 rfl
  | 50, _ => exact jW_mem mc50 rfl
  | 51, _ => exact jW_mem mc51 rfl
  | 52, _ => exact jW_mem mc52 rfl
  | 53, _ => exact jW_mem mc53 rfl
  | 54, _ => exact jW_mem mc54 rfl
  | 55, _ => exact jW_mem mc55 rfl
  | 56, _ => exact jW_mem mc56 rfl
  | 57, _ => exact jW_mem mc57 rfl
  | 58, _ => exact jW_mem mc58 rfl
  | 59, _ => exact jW_mem mc59 rfl
  | 60, _ => exact jW_mem mc60 rfl
  | 61, _ => exact jW_mem mc61 rfl
  | 62, _ => exact jW_mem mc62 rfl
  | 63, _ => exact jW_mem mc63 rfl
  | 64, _ => exact jW_mem mc64 rfl
  | 65, _ => exact jW_mem mc65 rfl
  | 66, _ => exact jW_mem mc66 rfl
  | 67, _ => exact jW_mem mc67 rfl
  | 68, _ => exact jW_mem mc68 rfl
  | 69, _ => exact jW_mem mc69 rfl
  | 70, _ => exact jW_mem mc70 rfl
  | 71, _ => exact jW_mem mc71 rfl
  | 72, _ => exact jW_mem mc72 rfl
  | 73, _ => exact jW_mem mc73 rfl
  | 74, _ => exact jW_mem mc74 rfl
  | 75, _ => exact jW_mem mc75 rfl
  | 76, _ => exact jW_mem mc76 rfl
  | 77, _ => exact jW_mem mc77 rfl
  | 78, _ => exact jW_mem mc78 rfl
  | 79, _ => exact jW_mem mc79 rfl
  | 80, _ => exact jW_mem mc80 rfl
  | 81, _ => exact jW_mem mc81 rfl
  | 82, _ => exact jW_mem mc82 rfl
  | 83, _ => exact jW_mem mc83 rfl
  | 84, _ => exact jW_mem mc84 rfl
  | 85, _ => exact jW_mem mc85 rfl
  | 86, _ => exact jW_mem mc86 rfl
  | 87, _ => exact jW_mem mc87 rfl
  | 88, _ => exact jW_mem mc88 rfl
  | 89, _ => exact jW_mem mc89 rfl
  | 90, _ => exact jW_mem mc90 rfl
  | 91, _ => exact jW_mem mc91 rfl
  | 92, _ => exact jW_mem mc92 rfl
  | 93, _ => exact jW_mem mc93 rfl
  | 94, _ => exact jW_mem mc94 rfl
  | 95, _ => exact jW_mem mc95 rfl
  | 96, _ => exact jW_mem mc96 rfl
  | 97, _ => exact jW_mem mc97 rfl
  | 98, _ => exact jW_mem mc98 rfl
  | 99, _ => exact jW_mem mc99 rfl
  | 100, _ => exact jW_mem mc100 rfl
  | 101, _ => exact jW_mem mc101 rfl
  | 102, _ => exact jW_mem mc102 rfl
  | 103, _ => exact jW_mem mc103 rfl
  | 104, _ => exact jW_mem mc104 rfl
  | 105, _ => exact jW_mem mc105 rfl
  | 106, _ => exact jW_mem mc106 rfl
  | 107, _ => exact jW_mem mc107 rfl
  | 108, _ => exact jW_mem mc108 rfl
  | 109, _ => exact jW_mem mc109 rfl
  | 110, _ => exact jW_mem mc110 rfl
  | 111, _ => exact jW_mem mc111 rfl
  | 112, _ => exact jW_mem mc112 rfl
  | 113, _ => exact jW_mem mc113 rfl
  | 114, _ => exact jW_mem mc114 rfl
  | 115, _ => exact jW_mem mc115 rfl
  | 116, _ => exact jW_mem mc116 rfl
  | 117, _ => exact jW_mem mc117 rfl
  | 118, _ => exact jW_mem mc118 rfl
  | 119, _ => exact jW_mem mc119 rfl
  | 120, _ => exact jW_mem mc120 rfl
  | 121, _ => exact jW_mem mc121 rfl
  | 122, _ => exact jW_mem mc122 rfl
  | 123, _ => exact jW_mem mc123 rfl
  | 124, _ => exact jW_mem mc124 rfl
  | 125, _ => exact jW_mem mc125 rfl
  | 126, _ => exact jW_mem mc126 rfl
  | 127, _ => exact jW_mem mc127 rfl
  | 128, _ => exact jW_mem mc128 rfl
  | 129, _ => exact jW_mem mc129 rfl
  | 130, _ => exact jW_mem mc130 rfl
  | 131, _ => exact jW_mem mc131 rfl
  | 132, _ => exact jW_mem mc132 rfl
  | 133, _ => exact jW_mem mc133 rfl
  | 134, _ => exact jW_mem mc134 rfl
  | 135, _ => exact jW_mem mc135 rfl
  | 136, _ => exact jW_mem mc136 rfl
  | 137, _ => exact jW_mem mc137 rfl
  | 138, _ => exact jW_mem mc138 rfl
  | 139, _ => exact jW_mem mc139 rfl
  | 140, _ => exact jW_mem mc140 rfl
  | 141, _ => exact jW_mem mc141 rfl
  | 142, _ => exact jW_mem mc142 rfl
  | 143, _ => exact jW_mem mc143 rfl
  | 144, _ => exact jW_mem mc144 rfl
  | 145, _ => exact jW_mem mc145 rfl
  | 146, _ => exact jW_mem mc146 rfl
  | 147, _ => exact jW_mem mc147 rfl
  | 148, _ => exact jW_mem mc148 rfl
  | 149, _ => exact jW_mem mc149 rfl
  | 150, _ => exact jW_mem mc150 rfl
  | 151, _ => exact jW_mem mc151 rfl
  | 152, _ => exact jW_mem mc152 rfl
  | 153, _ => exact jW_mem mc153 rfl
  | 154, _ => exact jW_mem mc154 rfl
  | 155, _ => exact jW_mem mc155 rfl
  | 156, _ => exact jW_mem mc156 rfl
  | 157, _ => exact jW_mem mc157 rfl
  | 158, _ => exact jW_mem mc158 rfl
  | 159, _ => exact jW_mem mc159 rfl
  | 160, _ => exact jW_mem mc160 rfl
  | 161, _ => exact jW_mem mc161 rfl
  | 162, _ => exact jW_mem mc162 rfl
  | 163, _ => exact jW_mem mc163 rfl
  | 164, _ => exact jW_mem mc164 rfl
  | 165, _ => exact jW_mem mc165 rfl
  | 166, _ => exact jW_mem mc166 rfl
  | 167, _ => exact jW_mem mc167 rfl
  | 168, _ => exact jW_mem mc168 rfl
  | 169, _ => exact jW_mem mc169 rfl
  | 170, _ => exact jW_mem mc170 rfl
  | 171, _ => exact jW_mem mc171 rfl
  | 172, _ => exact jW_mem mc172 rfl
  | 173, _ => exact jW_mem mc173 rfl
  | 174, _ => exact jW_mem mc174 rfl
  | 175, _ => exact jW_mem mc175 rfl
  | 176, _ => exact jW_mem mc176 rfl
  | 177, _ => exact jW_mem mc177 rfl
  | 178, _ => exact jW_mem mc178 rfl
  | 179, _ => exact jW_mem mc179 rfl
  | 180, _ => exact jW_mem mc180 rfl
  | 181, _ => exact jW_mem mc181 rfl
  | 182, _ => exact jW_mem mc182 rfl
  | 183, _ => exact jW_mem mc183 rfl
  | 184, _ => exact jW_mem mc184 rfl
  | 185, _ => exact jW_mem mc185 rfl
  | 186, _ => exact jW_mem mc186 rfl
  | 187, _ => exact jW_mem mc187 rfl
  | 188, _ => exact jW_mem mc188 rfl
  | 189, _ => exact jW_mem mc189 rfl
  | 190, _ => exact jW_mem mc190 rfl
  | 191, _ => exact jW_mem mc191 rfl
  | 192, _ => exact jW_mem mc192 rfl
  | 193, _ => exact jW_mem mc193 rfl
  | 194, _ => exact jW_mem mc194 rfl
  | 195, _ => exact jW_mem mc195 rfl
  | 196, _ => exact jW_mem mc196 rfl
  | 197, _ => exact jW_mem mc197 rfl
  | 198, _ => exact jW_mem mc198 rfl
  | 199, _ => exact jW_mem mc199 rfl
  | 200, _ => exact jW_mem mc200 rfl
  | 201, _ => exact jW_mem mc201 rfl
  | 202, _ => exact jW_mem mc202 rfl
  | 203, _ => exact jW_mem mc203 rfl
  | 204, _ => exact jW_mem mc204 rfl
  | 205, _ => exact jW_mem mc205 rfl
  | 206, _ => exact jW_mem mc206 rfl
  | 207, _ => exact jW_mem mc207 rfl
  | 208, _ => exact jW_mem mc208 rfl
  | 209, _ => exact jW_mem mc209 rfl
  | 210, _ => exact jW_mem mc210 rfl
  | 211, _ => exact jW_mem mc211 rfl
  | 212, _ => exact jW_mem mc212 rfl
  | 213, _ => exact jW_mem mc213 rfl
  | 214, _ => exact jW_mem mc214 rfl
  | 215, _ => exact jW_mem mc215 rfl
  | 216, _ => exact jW_mem mc216 rfl
  | 217, _ => exact jW_mem mc217 rfl
  | 218, _ => exact jW_mem mc218 rfl
  | 219, _ => exact jW_mem mc219 rfl
  | 220, _ => exact jW_mem mc220 rfl
  | 221, _ => exact jW_mem mc221 rfl
  | 222, _ => exact jW_mem mc222 rfl
  | 223, _ => exact jW_mem mc223 rfl
  | 224, _ => exact jW_mem mc224 rfl
  | 225, _ => exact jW_mem mc225 rfl
  | 226, _ => exact jW_mem mc226 rfl
  | 227, _ => exact jW_mem mc227 rfl
  | 228, _ => exact jW_mem mc228 rfl
  | 229, _ => exact jW_mem mc229 rfl
  | m + 230, h => exact absurd h (by omega)
