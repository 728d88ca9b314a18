def Cd (m : MI) : Prop := Cond.code (mi_y m) (mi_cc m) (mi_mx m) (mi_rt m) ∈ tw ∧ plainFor (mi_y m) = true
set_option maxRecDepth 20000 in
theorem cw2 : lw_tbl[148]? = some (Cond.code (mi_y m2) (mi_cc m2) (mi_mx m2) (mi_rt m2)) := rfl
theorem cd2 : Cd m2 := ⟨tw_in 148 cw2 rfl, by decide +kernel⟩
set_option maxRecDepth 20000 in
theorem cw3 : lw_tbl[156]? = some (Cond.code (mi_y m3) (mi_cc m3) (mi_mx m3) (mi_rt m3)) := rfl
theorem cd3 : Cd m3 := ⟨tw_in 156 cw3 rfl, by decide +kernel⟩
set_option maxRecDepth 20000 in
theorem cw4 : lw_tbl[162]? = some (Cond.code (mi_y m4) (mi_cc m4) (mi_mx m4) (mi_rt m4)) := rfl
theorem cd4 : Cd m4 := ⟨tw_in 162 cw4 rfl, by decide +kernel⟩
set_option maxRecDepth 20000 in
theorem cw5 : lw_tbl[195]? = some (Cond.code (mi_y m5) (mi_cc m5) (mi_mx m5) (mi_rt m5)) := rfl
theorem cd5 : Cd m5 := ⟨tw_in 195 cw5 rfl, by decide +kernel⟩
set_option maxRecDepth 20000 in
theorem cw6 : lw_tbl[201]? = some (Cond.code (mi_y m6) (mi_cc m6) (mi_mx m6) (mi_rt m6)) := rfl
theorem cd6 : Cd m6 := ⟨tw_in 201 cw6 rfl, by decide +kernel⟩
set_option maxRecDepth 20000 in
theorem cw7 : lw_tbl[392]? = some (Cond.code (mi_y m7) (mi_cc m7) (mi_mx m7) (mi_rt m7)) := rfl
theorem cd7 : Cd m7 := ⟨tw_in 392 cw7 rfl, by decide +kernel⟩
set_option maxRecDepth 20000 in
theorem cw8 : lw_tbl[426]? = some (Cond.code (mi_y m8) (mi_cc m8) (mi_mx m8) (mi_rt m8)) := rfl
theorem cd8 : Cd m8 := ⟨tw_in 426 cw8 rfl, by decide +kernel⟩
set_option maxRecDepth 20000 in
theorem cw9 : lw_tbl[452]? = some (Cond.code (mi_y m9) (mi_cc m9) (mi_mx m9) (mi_rt m9)) := rfl
theorem cd9 : Cd m9 := ⟨tw_in 452 cw9 rfl, by decide +kernel⟩
set_option maxRecDepth 20000 in
theorem cw10 : lw_tbl[476]? = some (Cond.code (mi_y m10) (mi_cc m10) (mi_mx m10) (mi_rt m10)) := rfl
theorem cd10 : Cd m10 := ⟨tw_in 476 cw10 rfl, by decide +kernel⟩
set_option maxRecDepth 20000 in
theorem cw11 : lw_tbl[515]? = some (Cond.code (mi_y m11) (mi_cc m11) (mi_mx m11) (mi_rt m11)) := rfl
theorem cd11 : Cd m11 := ⟨tw_in 515 cw11 rfl, by decide +kernel⟩
set_option maxRecDepth 20000 in
theorem cw12 : lw_tbl[540]? = some (Cond.code (mi_y m12) (mi_cc m12) (mi_mx m12) (mi_rt m12)) := rfl
theorem cd12 : Cd m12 := ⟨tw_in 540 cw12 rfl, by decide +kernel⟩
set_option maxRecDepth 20000 in
theorem cw13 : lw_tbl[552]? = some (Cond.code (mi_y m13) (mi_cc m13) (mi_mx m13) (mi_rt m13)) := rfl
theorem cd13 : Cd m13 := ⟨tw_in 552 cw13 rfl, by decide +kernel⟩
set_option maxRecDepth 20000 in
theorem cw14 : lw_tbl[619]? = some (Cond.code (mi_y m14) (mi_cc m14) (mi_mx m14) (mi_rt m14)) := rfl
theorem cd14 : Cd m14 := ⟨tw_in 619 cw14 rfl, by decide +kernel⟩
set_option maxRecDepth 20000 in
theorem cw15 : lw_tbl[623]? = some (Cond.code (mi_y m15) (mi_cc m15) (mi_mx m15) (mi_rt m15)) := rfl
theorem cd15 : Cd m15 := ⟨tw_in 623 cw15 rfl, by decide +kernel⟩
set_option maxRecDepth 20000 in
theorem cw16 : lw_tbl[627]? = some (Cond.code (mi_y m16) (mi_cc m16) (mi_mx m16) (mi_rt m16)) := rfl
theorem cd16 : Cd m16 := ⟨tw_in 627 cw16 rfl, by decide +kernel⟩
set_option maxRecDepth 20000 in
theorem cw17 : lw_tbl[630]? = some (Cond.code (mi_y m17) (mi_cc m17) (mi_mx m17) (mi_rt m17)) := rfl
theorem cd17 : Cd m17 := ⟨tw_in 630 cw17 rfl, by decide +kernel⟩
set_option maxRecDepth 20000 in
theorem cw18 : lw_tbl[634]? = some (Cond.code (mi_y m18) (mi_cc m18) (mi_mx m18) (mi_rt m18)) := rfl
theorem cd18 : Cd m18 := ⟨tw_in 634 cw18 rfl, by decide +kernel⟩
set_option maxRecDepth 20000 in
theorem cw19 : lw_tbl[638]? = some (Cond.code (mi_y m19) (mi_cc m19) (mi_mx m19) (mi_rt m19)) := rfl
theorem cd19 : Cd m19 := ⟨tw_in 638 cw19 rfl, by decide +kernel⟩
set_option maxRecDepth 20000 in
theorem cw20 : lw_tbl[642]? = some (Cond.code (mi_y m20) (mi_cc m20) (mi_mx m20) (mi_rt m20)) := rfl
theorem cd20 : Cd m20 := ⟨tw_in 642 cw20 rfl, by decide +kernel⟩
set_option maxRecDepth 20000 in
theorem cw21 : lw_tbl[646]? = some (Cond.code (mi_y m21) (mi_cc m21) (mi_mx m21) (mi_rt m21)) := rfl
theorem cd21 : Cd m21 := ⟨tw_in 646 cw21 rfl, by decide +kernel⟩
set_option maxRecDepth 20000 in
theorem cw22 : lw_tbl[649]? = some (Cond.code (mi_y m22) (mi_cc m22) (mi_mx m22) (mi_rt m22)) := rfl
theorem cd22 : Cd m22 := ⟨tw_in 649 cw22 rfl, by decide +kernel⟩
set_option maxRecDepth 20000 in
theorem cw23 : lw_tbl[653]? = some (Cond.code (mi_y m23) (mi_cc m23) (mi_mx m23) (mi_rt m23)) := rfl
theorem cd23 : Cd m23 := ⟨tw_in 653 cw23 rfl, by decide +kernel⟩
set_option maxRecDepth 20000 in
theorem cw24 : lw_tbl[656]? = some (Cond.code (mi_y m24) (mi_cc m24) (mi_mx m24) (mi_rt m24)) := rfl
theorem cd24 : Cd m24 := ⟨tw_in 656 cw24 rfl, by decide +kernel⟩
set_option maxRecDepth 20000 in
theorem cw25 : lw_tbl[660]? = some (Cond.code (mi_y m25) (mi_cc m25) (mi_mx m25) (mi_rt m25)) := rfl
theorem cd25 : Cd m25 := ⟨tw_in 660 cw25 rfl, by decide +kernel⟩
set_option maxRecDepth 20000 in
theorem cw26 : lw_tbl[664]? = some (Cond.code (mi_y m26) (mi_cc m26) (mi_mx m26) (mi_rt m26)) := rfl
theorem cd26 : Cd m26 := ⟨tw_in 664 cw26 rfl, by decide +kernel⟩
set_option maxRecDepth 20000 in
theorem cw27 : lw_tbl[668]? = some (Cond.code (mi_y m27) (mi_cc m27) (mi_mx m27) (mi_rt m27)) := rfl
theorem cd27 : Cd m27 := ⟨tw_in 668 cw27 rfl, by decide +kernel⟩
set_option maxRecDepth 20000 in
theorem cw28 : lw_tbl[673]? = some (Cond.code (mi_y m28) (mi_cc m28) (mi_mx m28) (mi_rt m28)) := rfl
theorem cd28 : Cd m28 := ⟨tw_in 673 cw28 rfl, by decide +kernel⟩
set_option maxRecDepth 20000 in
theorem cw29 : lw_tbl[677]? = some (Cond.code (mi_y m29) (mi_cc m29) (mi_mx m29) (mi_rt m29)) := rfl
theorem cd29 : Cd m29 := ⟨tw_in 677 cw29 rfl, by decide +kernel⟩
set_option maxRecDepth 20000 in
theorem cw30 : lw_tbl[681]? = some (Cond.code (mi_y m30) (mi_cc m30) (mi_mx m30) (mi_rt m30)) := rfl
theorem cd30 : Cd m30 := ⟨tw_in 681 cw30 rfl, by decide +kernel⟩
set_option maxRecDepth 20000 in
theorem cw31 : lw_tbl[687]? = some (Cond.code (mi_y m31) (mi_cc m31) (mi_mx m31) (mi_rt m31)) := rfl
theorem cd31 : Cd m31 := ⟨tw_in 687 cw31 rfl, by decide +kernel⟩
set_option maxRecDepth 20000 in
theorem cw32 : lw_tbl[691]? = some (Cond.code (mi_y m32) (mi_cc m32) (mi_mx m32) (mi_rt m32)) := rfl
theorem cd32 : Cd m32 := ⟨tw_in 691 cw32 rfl, by decide +kernel⟩
set_option maxRecDepth 20000 in
theorem cw33 : lw_tbl[694]? = some (Cond.code (mi_y m33) (mi_cc m33) (mi_mx m33) (mi_rt m33)) := rfl
theorem cd33 : Cd m33 := ⟨tw_in 694 cw33 rfl, by decide +kernel⟩
set_option maxRecDepth 20000 in
theorem cw34 : lw_tbl[697]? = some (Cond.code (mi_y m34) (mi_cc m34) (mi_mx m34) (mi_rt m34)) := rfl
theorem cd34 : Cd m34 := ⟨tw_in 697 cw34 rfl, by decide +kernel⟩
set_option maxRecDepth 20000 in
theorem cw35 : lw_tbl[702]? = some (Cond.code (mi_y m35) (mi_cc m35) (mi_mx m35) (mi_rt m35)) := rfl
theorem cd35 : Cd m35 := ⟨tw_in 702 cw35 rfl, by decide +kernel⟩
set_option maxRecDepth 20000 in
theorem cw36 : lw_tbl[733]? = some (Cond.code (mi_y m36) (mi_cc m36) (mi_mx m36) (mi_rt m36)) := rfl
theorem cd36 : Cd m36 := ⟨tw_in 733 cw36 rfl, by decide +kernel⟩
set_option maxRecDepth 20000 in
theorem cw37 : lw_tbl[737]? = some (Cond.code (mi_y m37) (mi_cc m37) (mi_mx m37) (mi_rt m37)) := rfl
theorem cd37 : Cd m37 := ⟨tw_in 737 cw37 rfl, by decide +kernel⟩
set_option maxRecDepth 20000 in
theorem cw38 : lw_tbl[742]? = some (Cond.code (mi_y m38) (mi_cc m38) (mi_mx m38) (mi_rt m38)) := rfl
theorem cd38 : Cd m38 := ⟨tw_in 742 cw38 rfl, by decide +kernel⟩
set_option maxRecDepth 20000 in
theorem cw39 : lw_tbl[747]? = some (Cond.code (mi_y m39) (mi_cc m39) (mi_mx m39) (mi_rt m39)) := rfl
theorem cd39 : Cd m39 := ⟨tw_in 747 cw39 rfl, by decide +kernel⟩
set_option maxRecDepth 20000 in
theorem cw40 : lw_tbl[751]? = some (Cond.code (mi_y m40) (mi_cc m40) (mi_mx m40) (mi_rt m40)) := rfl
theorem cd40 : Cd m40 := ⟨tw_in 751 cw40 rfl, by decide +kernel⟩
set_option maxRecDepth 20000 in
theorem cw41 : lw_tbl[755]? = some (Cond.code (mi_y m41) (mi_cc m41) (mi_mx m41) (mi_rt m41)) := rfl
theorem cd41 : Cd m41 := ⟨tw_in 755 cw41 rfl, by decide +kernel⟩
set_option maxRecDepth 20000 in
theorem cw42 : lw_tbl[759]? = some (Cond.code (mi_y m42) (mi_cc m42) (mi_mx m42) (mi_rt m42)) := rfl
theorem cd42 : Cd m42 := ⟨tw_in 759 cw42 rfl, by decide +kernel⟩
set_option maxRecDepth 20000 in
theorem cw43 : lw_tbl[763]? = some (Cond.code (mi_y m43) (mi_cc m43) (mi_mx m43) (mi_rt m43)) := rfl
theorem cd43 : Cd m43 := ⟨tw_in 763 cw43 rfl, by decide +kernel⟩
set_option maxRecDepth 20000 in
theorem cw44 : lw_tbl[770]? = some (Cond.code (mi_y m44) (mi_cc m44) (mi_mx m44) (mi_rt m44)) := rfl
theorem cd44 : Cd m44 := ⟨tw_in 770 cw44 rfl, by decide +kernel⟩
set_option maxRecDepth 20000 in
theorem cw45 : lw_tbl[774]? = some (Cond.code (mi_y m45) (mi_cc m45) (mi_mx m45) (mi_rt m45)) := rfl
theorem cd45 : Cd m45 := ⟨tw_in 774 cw45 rfl, by decide +kernel⟩
set_option maxRecDepth 20000 in
theorem cw46 : lw_tbl[778]? = some (Cond.code (mi_y m46) (mi_cc m46) (mi_mx m46) (mi_rt m46)) := rfl
theorem cd46 : Cd m46 := ⟨tw_in 778 cw46 rfl, by decide +kernel⟩
set_option maxRecDepth 20000 in
theorem cw47 : lw_tbl[782]? = some (Cond.code (mi_y m47) (mi_cc m47) (mi_mx m47) (mi_rt m47)) := rfl
theorem cd47 : Cd m47 := ⟨tw_in 782 cw47 rfl, by decide +kernel⟩
set_option maxRecDepth 20000 in
theorem cw48 : lw_tbl[788]? = some (Cond.code (mi_y m48) (mi_cc m48) (mi_mx m48) (mi_rt m48)) := rfl
theorem cd48 : Cd m48 := ⟨tw_in 788 cw48 rfl, by decide +kernel⟩
set_option maxRecDepth 20000 in
theorem cw49 : lw_tbl[792]? = some (Cond.code (mi_y m49) (mi_cc m49) (mi_mx m49) (mi_rt m49)) := rfl
theorem cd49 : Cd m49 := ⟨tw_in 792 cw49 rfl, by decide +kernel⟩
set_option maxRecDepth 20000 in
theorem cw50 : lw_tbl[801]? = some (Cond.code (mi_y m50) (mi_cc m50) (mi_mx m50) (mi_rt m50)) := rfl
theorem cd50 : Cd m50 := ⟨tw_in 801 cw50 rfl, by decide +kernel⟩
set_option maxRecDepth 20000 in
theorem cw51 : lw_tbl[806]? = some (Cond.code (mi_y m51) (mi_cc m51) (mi_mx m51) (mi_rt m51)) := rfl
theorem cd51 : Cd m51 := ⟨tw_in 806 cw51 rfl, by decide +kernel⟩
set_option maxRecDepth 20000 in
theorem cw52 : lw_tbl[811]? = some (Cond.code (mi_y m52) (mi_cc m52) (mi_mx m52) (mi_rt m52)) := rfl
theorem cd52 : Cd m52 := ⟨tw_in 811 cw52 rfl, by decide +kernel⟩
set_option maxRecDepth 20000 in
theorem cw53 : lw_tbl[817]? = some (Cond.code (mi_y m53) (mi_cc m53) (mi_mx m53) (mi_rt m53)) := rfl
theorem cd53 : Cd m53 := ⟨tw_in 817 cw53 rfl, by decide +kernel⟩
set_option maxRecDepth 20000 in
theorem cw54 : lw_tbl[821]? = some (Cond.code (mi_y m54) (mi_cc m54) (mi_mx m54) (mi_rt m54)) := rfl
theorem cd54 : Cd m54 := ⟨tw_in 821 cw54 rfl, by decide +kernel⟩
set_option maxRecDepth 20000 in
theorem cw55 : lw_tbl[825]? = some (Cond.code (mi_y m55) (mi_cc m55) (mi_mx m55) (mi_rt m55)) := rfl
theorem cd55 : Cd m55 := ⟨tw_in 825 cw55 rfl, by decide +kernel⟩
set_option maxRecDepth 20000 in
theorem cw56 : lw_tbl[831]? = some (Cond.code (mi_y m56) (mi_cc m56) (mi_mx m56) (mi_rt m56)) := rfl
theorem cd56 : Cd m56 := ⟨tw_in 831 cw56 rfl, by decide +kernel⟩
set_option maxRecDepth 20000 in
theorem cw57 : lw_tbl[835]? = some (Cond.code (mi_y m57) (mi_cc m57) (mi_mx m57) (mi_rt m57)) := rfl
theorem cd57 : Cd m57 := ⟨tw_in 835 cw57 rfl, by decide +kernel⟩
set_option maxRecDepth 20000 in
theorem cw58 : lw_tbl[839]? = some (Cond.code (mi_y m58) (mi_cc m58) (mi_mx m58) (mi_rt m58)) := rfl
theorem cd58 : Cd m58 := ⟨tw_in 839 cw58 rfl, by decide +kernel⟩
set_option maxRecDepth 20000 in
theorem cw59 : lw_tbl[846]? = some (Cond.code (mi_y m59) (mi_cc m59) (mi_mx m59) (mi_rt m59)) := rfl
theorem cd59 : Cd m59 := ⟨tw_in 846 cw59 rfl, by decide +kernel⟩
set_option maxRecDepth 20000 in
theorem cw60 : lw_tbl[850]? = some (Cond.code (mi_y m60) (mi_cc m60) (mi_mx m60) (mi_rt m60)) := rfl
theorem cd60 : Cd m60 := ⟨tw_in 850 cw60 rfl, by decide +kernel⟩
set_option maxRecDepth 20000 in
theorem cw61 : lw_tbl[854]? = some (Cond.code (mi_y m61) (mi_cc m61) (mi_mx m61) (mi_rt m61)) := rfl
theorem cd61 : Cd m61 := ⟨tw_in 854 cw61 rfl, by decide +kernel⟩
set_option maxRecDepth 20000 in
theorem cw62 : lw_tbl[858]? = some (Cond.code (mi_y m62) (mi_cc m62) (mi_mx m62) (mi_rt m62)) := rfl
theorem cd62 : Cd m62 := ⟨tw_in 858 cw62 rfl, by decide +kernel⟩
set_option maxRecDepth 20000 in
theorem cw63 : lw_tbl[862]? = some (Cond.code (mi_y m63) (mi_cc m63) (mi_mx m63) (mi_rt m63)) := rfl
theorem cd63 : Cd m63 := ⟨tw_in 862 cw63 rfl, by decide +kernel⟩
set_option maxRecDepth 20000 in
theorem cw64 : lw_tbl[866]? = some (Cond.code (mi_y m64) (mi_cc m64) (mi_mx m64) (mi_rt m64)) := rfl
theorem cd64 : Cd m64 := ⟨tw_in 866 cw64 rfl, by decide +kernel⟩
set_option maxRecDepth 20000 in
theorem cw65 : lw_tbl[870]? = some (Cond.code (mi_y m65) (mi_cc m65) (mi_mx m65) (mi_rt m65)) := rfl
theorem cd65 : Cd m65 := ⟨tw_in 870 cw65 rfl, by decide +kernel⟩
set_option maxRecDepth 20000 in
theorem cw66 : lw_tbl[874]? = some (Cond.code (mi_y m66) (mi_cc m66) (mi_mx m66) (mi_rt m66)) := rfl
theorem cd66 : Cd m66 := ⟨tw_in 874 cw66 rfl, by decide +kernel⟩
set_option maxRecDepth 20000 in
theorem cw67 : lw_tbl[880]? = some (Cond.code (mi_y m67) (mi_cc m67) (mi_mx m67) (mi_rt m67)) := rfl
theorem cd67 : Cd m67 := ⟨tw_in 880 cw67 rfl, by decide +kernel⟩
set_option maxRecDepth 20000 in
theorem cw68 : lw_tbl[884]? = some (Cond.code (mi_y m68) (mi_cc m68) (mi_mx m68) (mi_rt m68)) := rfl
theorem cd68 : Cd m68 := ⟨tw_in 884 cw68 rfl, by decide +kernel⟩
set_option maxRecDepth 20000 in
theorem cw69 : lw_tbl[888]? = some (Cond.code (mi_y m69) (mi_cc m69) (mi_mx m69) (mi_rt m69)) := rfl
theorem cd69 : Cd m69 := ⟨tw_in 888 cw69 rfl, by decide +kernel⟩
set_option maxRecDepth 20000 in
theorem cw70 : lw_tbl[892]? = some (Cond.code (mi_y m70) (mi_cc m70) (mi_mx m70) (mi_rt m70)) := rfl
theorem cd70 : Cd m70 := ⟨tw_in 892 cw70 rfl, by decide +kernel⟩
set_option maxRecDepth 20000 in
theorem cw71 : lw_tbl[896]? = some (Cond.code (mi_y m71) (mi_cc m71) (mi_mx m71) (mi_rt m71)) := rfl
theorem cd71 : Cd m71 := ⟨tw_in 896 cw71 rfl, by decide +kernel⟩
set_option maxRecDepth 20000 in
theorem cw72 : lw_tbl[900]? = some (Cond.code (mi_y m72) (mi_cc m72) (mi_mx m72) (mi_rt m72)) := rfl
theorem cd72 : Cd m72 := ⟨tw_in 900 cw72 rfl, by decide +kernel⟩
set_option maxRecDepth 20000 in
theorem cw73 : lw_tbl[903]? = some (Cond.code (mi_y m73) (mi_cc m73) (mi_mx m73) (mi_rt m73)) := rfl
theorem cd73 : Cd m73 := ⟨tw_in 903 cw73 rfl, by decide +kernel⟩
set_option maxRecDepth 20000 in
theorem cw74 : lw_tbl[910]? = some (Cond.code (mi_y m74) (mi_cc m74) (mi_mx m74) (mi_rt m74)) := rfl
theorem cd74 : Cd m74 := ⟨tw_in 910 cw74 rfl, by decide +kernel⟩
set_option maxRecDepth 20000 in
theorem cw75 : lw_tbl[913]? = some (Cond.code (mi_y m75) (mi_cc m75) (mi_mx m75) (mi_rt m75)) := rfl
theorem cd75 : Cd m75 := ⟨tw_in 913 cw75 rfl, by decide +kernel⟩
set_option maxRecDepth 20000 in
theorem cw76 : lw_tbl[917]? = some (Cond.code (mi_y m76) (mi_cc m76) (mi_mx m76) (mi_rt m76)) := rfl
theorem cd76 : Cd m76 := ⟨tw_in 917 cw76 rfl, by decide +kernel⟩
set_option maxRecDepth 20000 in
theorem cw77 : lw_tbl[923]? = some (Cond.code (mi_y m77) (mi_cc m77) (mi_mx m77) (mi_rt m77)) := rfl
theorem cd77 : Cd m77 := ⟨tw_in 923 cw77 rfl, by decide +kernel⟩
set_option maxRecDepth 20000 in
theorem cw78 : lw_tbl[927]? = some (Cond.code (mi_y m78) (mi_cc m78) (mi_mx m78) (mi_rt m78)) := rfl
theorem cd78 : Cd m78 := ⟨tw_in 927 cw78 rfl, by decide +kernel⟩
set_option maxRecDepth 20000 in
theorem cw79 : lw_tbl[930]? = some (Cond.code (mi_y m79) (mi_cc m79) (mi_mx m79) (mi_rt m79)) := rfl
theorem cd79 : Cd m79 := ⟨tw_in 930 cw79 rfl, by decide +kernel⟩
set_option maxRecDepth 20000 in
theorem cw80 : lw_tbl[934]? = some (Cond.code (mi_y m80) (mi_cc m80) (mi_mx m80) (mi_rt m80)) := rfl
theorem cd80 : Cd m80 := ⟨tw_in 934 cw80 rfl, by decide +kernel⟩
set_option maxRecDepth 20000 in
theorem cw81 : lw_tbl[938]? = some (Cond.code (mi_y m81) (mi_cc m81) (mi_mx m81) (mi_rt m81)) := rfl
theorem cd81 : Cd m81 := ⟨tw_in 938 cw81 rfl, by decide +kernel⟩
set_option maxRecDepth 20000 in
theorem cw82 : lw_tbl[942]? = some (Cond.code (mi_y m82) (mi_cc m82) (mi_mx m82) (mi_rt m82)) := rfl
theorem cd82 : Cd m82 := ⟨tw_in 942 cw82 rfl, by decide +kernel⟩
set_option maxRecDepth 20000 in
theorem cw83 : lw_tbl[946]? = some (Cond.code (mi_y m83) (mi_cc m83) (mi_mx m83) (mi_rt m83)) := rfl
theorem cd83 : Cd m83 := ⟨tw_in 946 cw83 rfl, by decide +kernel⟩
set_option maxRecDepth 20000 in
theorem cw84 : lw_tbl[950]? = some (Cond.code (mi_y m84) (mi_cc m84) (mi_mx m84) (mi_rt m84)) := rfl
theorem cd84 : Cd m84 := ⟨tw_in 950 cw84 rfl, by decide +kernel⟩
set_option maxRecDepth 20000 in
theorem cw85 : lw_tbl[954]? = some (Cond.code (mi_y m85) (mi_cc m85) (mi_mx m85) (mi_rt m85)) := rfl
theorem cd85 : Cd m85 := ⟨tw_in 954 cw85 rfl, by decide +kernel⟩
set_option maxRecDepth 20000 in
theorem cw86 : lw_tbl[958]? = some (Cond.code (mi_y m86) (mi_cc m86) (mi_mx m86) (mi_rt m86)) := rfl
theorem cd86 : Cd m86 := ⟨tw_in 958 cw86 rfl, by decide +kernel⟩
set_option maxRecDepth 20000 in
theorem cw87 : lw_tbl[962]? = some (Cond.code (mi_y m87) (mi_cc m87) (mi_mx m87) (mi_rt m87)) := rfl
theorem cd87 : Cd m87 := ⟨tw_in 962 cw87 rfl, by decide +kernel⟩
set_option maxRecDepth 20000 in
theorem cw88 : lw_tbl[966]? = some (Cond.code (mi_y m88) (mi_cc m88) (mi_mx m88) (mi_rt m88)) := rfl
theorem cd88 : Cd m88 := ⟨tw_in 966 cw88 rfl, by decide +kernel⟩
set_option maxRecDepth 20000 in
theorem cw89 : lw_tbl[970]? = some (Cond.code (mi_y m89) (mi_cc m89) (mi_mx m89) (mi_rt m89)) := rfl
theorem cd89 : Cd m89 := ⟨tw_in 970 cw89 rfl, by decide +kernel⟩
set_option maxRecDepth 20000 in
theorem cw90 : lw_tbl[974]? = some (Cond.code (mi_y m90) (mi_cc m90) (mi_mx m90) (mi_rt m90)) := rfl
theorem cd90 : Cd m90 := ⟨tw_in 974 cw90 rfl, by decide +kernel⟩
set_option maxRecDepth 20000 in
theorem cw91 : lw_tbl[978]? = some (Cond.code (mi_y m91) (mi_cc m91) (mi_mx m91) (mi_rt m91)) := rfl
theorem cd91 : Cd m91 := ⟨tw_in 978 cw91 rfl, by decide +kernel⟩
set_option maxRecDepth 20000 in
theorem cw92 : lw_tbl[982]? = some (Cond.code (mi_y m92) (mi_cc m92) (mi_mx m92) (mi_rt m92)) := rfl
theorem cd92 : Cd m92 := ⟨tw_in 982 cw92 rfl, by decide +kernel⟩
set_option maxRecDepth 20000 in
theorem cw93 : lw_tbl[986]? = some (Cond.code (mi_y m93) (mi_cc m93) (mi_mx m93) (mi_rt m93)) := rfl
theorem cd93 : Cd m93 := ⟨tw_in 986 cw93 rfl, by decide +kernel⟩
set_option maxRecDepth 20000 in
theorem cw94 : lw_tbl[992]? = some (Cond.code (mi_y m94) (mi_cc m94) (mi_mx m94) (mi_rt m94)) := rfl
theorem cd94 : Cd m94 := ⟨tw_in 992 cw94 rfl, by decide +kernel⟩
set_option maxRecDepth 20000 in
theorem cw95 : lw_tbl[996]? = some (Cond.code (mi_y m95) (mi_cc m95) (mi_mx m95) (mi_rt m95)) := rfl
theorem cd95 : Cd m95 := ⟨tw_in 996 cw95 rfl, by decide +kernel⟩
set_option maxRecDepth 20000 in
theorem cw96 : lw_tbl[1000]? = some (Cond.code (mi_y m96) (mi_cc m96) (mi_mx m96) (mi_rt m96)) := rfl
theorem cd96 : Cd m96 := ⟨tw_in 1000 cw96 rfl, by decide +kernel⟩
set_option maxRecDepth 20000 in
theorem cw97 : lw_tbl[1005]? = some (Cond.code (mi_y m97) (mi_cc m97) (mi_mx m97) (mi_rt m97)) := rfl
theorem cd97 : Cd m97 := ⟨tw_in 1005 cw97 rfl, by decide +kernel⟩
set_option maxRecDepth 20000 in
theorem cw98 : lw_tbl[1009]? = some (Cond.code (mi_y m98) (mi_cc m98) (mi_mx m98) (mi_rt m98)) := rfl
theorem cd98 : Cd m98 := ⟨tw_in 1009 cw98 rfl, by decide +kernel⟩
set_option maxRecDepth 20000 in
theorem cw99 : lw_tbl[1013]? = some (Cond.code (mi_y m99) (mi_cc m99) (mi_mx m99) (mi_rt m99)) := rfl
theorem cd99 : Cd m99 := ⟨tw_in 1013 cw99 rfl, by decide +kernel⟩
set_option maxRecDepth 20000 in
theorem cw100 : lw_tbl[1017]? = some (Cond.code (mi_y m100) (mi_cc m100) (mi_mx m100) (mi_rt m100)) := rfl
theorem cd100 : Cd m100 := ⟨tw_in 1017 cw100 rfl, by decide +kernel⟩
set_option maxRecDepth 20000 in
theorem cw101 : lw_tbl[1021]? = some (Cond.code (mi_y m101) (mi_cc m101) (mi_mx m101) (mi_rt m101)) := rfl
theorem cd101 : Cd m101 := ⟨tw_in 1021 cw101 rfl, by decide +kernel⟩
set_option maxRecDepth 20000 in
theorem cw102 : lw_tbl[1025]? = some (Cond.code (mi_y m102) (mi_cc m102) (mi_mx m102) (mi_rt m102)) := rfl
theorem cd102 : Cd m102 := ⟨tw_in 1025 cw102 rfl, by decide +kernel⟩
set_option maxRecDepth 20000 in
theorem cw103 : lw_tbl[1029]? = some (Cond.code (mi_y m103) (mi_cc m103) (mi_mx m103) (mi_rt m103)) := rfl
theorem cd103 : Cd m103 := ⟨tw_in 1029 cw103 rfl, by decide +kernel⟩
set_option maxRecDepth 20000 in
theorem cw104 : lw_tbl[1033]? = some (Cond.code (mi_y m104) (mi_cc m104) (mi_mx m104) (mi_rt m104)) := rfl
theorem cd104 : Cd m104 := ⟨tw_in 1033 cw104 rfl, by decide +kernel⟩
set_option maxRecDepth 20000 in
theorem cw105 : lw_tbl[1037]? = some (Cond.code (mi_y m105) (mi_cc m105) (mi_mx m105) (mi_rt m105)) := rfl
theorem cd105 : Cd m105 := ⟨tw_in 1037 cw105 rfl, by decide +kernel⟩
set_option maxRecDepth 20000 in
theorem cw106 : lw_tbl[1042]? = some (Cond.code (mi_y m106) (mi_cc m106) (mi_mx m106) (mi_rt m106)) := rfl
theorem cd106 : Cd m106 := ⟨tw_in 1042 cw106 rfl, by decide +kernel⟩
set_option maxRecDepth 20000 in
theorem cw107 : lw_tbl[1046]? = some (Cond.code (mi_y m107) (mi_cc m107) (mi_mx m107) (mi_rt m107)) := rfl
theorem cd107 : Cd m107 := ⟨tw_in 1046 cw107 rfl, by decide +kernel⟩
set_option maxRecDepth 20000 in
theorem cw108 : lw_tbl[1050]? = some (Cond.code (mi_y m108) (mi_cc m108) (mi_mx m108) (mi_rt m108)) := rfl
theorem cd108 : Cd m108 := ⟨tw_in 1050 cw108 rfl, by decide +kernel⟩
set_option maxRecDepth 20000 in
theorem cw109 : lw_tbl[1057]? = some (Cond.code (mi_y m109) (mi_cc m109) (mi_mx m109) (mi_rt m109)) := rfl
theorem cd109 : Cd m109 := ⟨tw_in 1057 cw109 rfl, by decide +kernel⟩
set_option maxRecDepth 20000 in
theorem cw110 : lw_tbl[1061]? = some (Cond.code (mi_y m110) (mi_cc m110) (mi_mx m110) (mi_rt m110)) := rfl
theorem cd110 : Cd m110 := ⟨tw_in 1061 cw110 rfl, by decide +kernel⟩
set_option maxRecDepth 20000 in
theorem cw111 : lw_tbl[1067]? = some (Cond.code (mi_y m111) (mi_cc m111) (mi_mx m111) (mi_rt m111)) := rfl
theorem cd111 : Cd m111 := ⟨tw_in 1067 cw111 rfl, by decide +kernel⟩
set_option maxRecDepth 20000 in
theorem cw112 : lw_tbl[1071]? = some (Cond.code (mi_y m112) (mi_cc m112) (mi_mx m112) (mi_rt m112)) := rfl
theorem cd112 : Cd m112 := ⟨tw_in 1071 cw112 rfl, by decide +kernel⟩
set_option maxRecDepth 20000 in
theorem cw113 : lw_tbl[1079]? = some (Cond.code (mi_y m113) (mi_cc m113) (mi_mx m113) (mi_rt m113)) := rfl
theorem cd113 : Cd m113 := ⟨tw_in 1079 cw113 rfl, by decide +kernel⟩
set_option maxRecDepth 20000 in
theorem cw114 : lw_tbl[1085]? = some (Cond.code (mi_y m114) (mi_cc m114) (mi_mx m114) (mi_rt m114)) := rfl
theorem cd114 : Cd m114 := ⟨tw_in 1085 cw114 rfl, by decide +kernel⟩
set_option maxRecDepth 20000 in
theorem cw115 : lw_tbl[1089]? = some (Cond.code (mi_y m115) (mi_cc m115) (mi_mx m115) (mi_rt m115)) := rfl
theorem cd115 : Cd m115 := ⟨tw_in 1089 cw115 rfl, by decide +kernel⟩
set_option maxRecDepth 20000 in
theorem cw116 : lw_tbl[1093]? = some (Cond.code (mi_y m116) (mi_cc m116) (mi_mx m116) (mi_rt m116)) := rfl
theorem cd116 : Cd m116 := ⟨tw_in 1093 cw116 rfl, by decide +kernel⟩
set_option maxRecDepth 20000 in
theorem cw117 : lw_tbl[1098]? = some (Cond.code (mi_y m117) (mi_cc m117) (mi_mx m117) (mi_rt m117)) := rfl
theorem cd117 : Cd m117 := ⟨tw_in 1098 cw117 rfl, by decide +kernel⟩
set_option maxRecDepth 20000 in
theorem cw118 : lw_tbl[1101]? = some (Cond.code (mi_y m118) (mi_cc m118) (mi_mx m118) (mi_rt m118)) := rfl
theorem cd118 : Cd m118 := ⟨tw_in 1101 cw118 rfl, by decide +kernel⟩
set_option maxRecDepth 20000 in
theorem cw119 : lw_tbl[1107]? = some (Cond.code (mi_y m119) (mi_cc m119) (mi_mx m119) (mi_rt m119)) := rfl
theorem cd119 : Cd m119 := ⟨tw_in 1107 cw119 rfl, by decide +kernel⟩
set_option maxRecDepth 20000 in
theorem cw120 : lw_tbl[1111]? = some (Cond.code (mi_y m120) (mi_cc m120) (mi_mx m120) (mi_rt m120)) := rfl
theorem cd120 : Cd m120 := ⟨tw_in 1111 cw120 rfl, by decide +kernel⟩
set_option maxRecDepth 20000 in
theorem cw121 : lw_tbl[1115]? = some (Cond.code (mi_y m121) (mi_cc m121) (mi_mx m121) (mi_rt m121)) := rfl
theorem cd121 : Cd m121 := ⟨tw_in 1115 cw121 rfl, by decide +kernel⟩
set_option maxRecDepth 20000 in
theorem cw122 : lw_tbl[1119]? = some (Cond.code (mi_y m122) (mi_cc m122) (mi_mx m122) (mi_rt m122)) := rfl
theorem cd122 : Cd m122 := ⟨tw_in 1119 cw122 rfl, by decide +kernel⟩
set_option maxRecDepth 20000 in
theorem cw123 : lw_tbl[1123]? = some (Cond.code (mi_y m123) (mi_cc m123) (mi_mx m123) (mi_rt m123)) := rfl
theorem cd123 : Cd m123 := ⟨tw_in 1123 cw123 rfl, by decide +kernel⟩
set_option maxRecDepth 20000 in
theorem cw124 : lw_tbl[1127]? = some (Cond.code (mi_y m124) (mi_cc m124) (mi_mx m124) (mi_rt m124)) := rfl
theorem cd124 : Cd m124 := ⟨tw_in 1127 cw124 rfl, by decide +kernel⟩
set_option maxRecDepth 20000 in
theorem cw125 : lw_tbl[1131]? = some (Cond.code (mi_y m125) (mi_cc m125) (mi_mx m125) (mi_rt m125)) := rfl
theorem cd125 : Cd m125 := ⟨tw_in 1131 cw125 rfl, by decide +kernel⟩
set_option maxRecDepth 20000 in
theorem cw126 : lw_tbl[1135]? = some (Cond.code (mi_y m126) (mi_cc m126) (mi_mx m126) (mi_rt m126)) := rfl
theorem cd126 : Cd m126 := ⟨tw_in 1135 cw126 rfl, by decide +kernel⟩
set_option maxRecDepth 20000 in
theorem cw127 : lw_tbl[1139]? = some (Cond.code (mi_y m127) (mi_cc m127) (mi_mx m127) (mi_rt m127)) := rfl
theorem cd127 : Cd m127 := ⟨tw_in 1139 cw127 rfl, by decide +kernel⟩
set_option maxRecDepth 20000 in
theorem cw128 : lw_tbl[1143]? = some (Cond.code (mi_y m128) (mi_cc m128) (mi_mx m128) (mi_rt m128)) := rfl
theorem cd128 : Cd m128 := ⟨tw_in 1143 cw128 rfl, by decide +kernel⟩
set_option maxRecDepth 20000 in
theorem cw129 : lw_tbl[1149]? = some (Cond.code (mi_y m129) (mi_cc m129) (mi_mx m129) (mi_rt m129)) := rfl
theorem cd129 : Cd m129 := ⟨tw_in 1149 cw129 rfl, by decide +kernel⟩
set_option maxRecDepth 20000 in
theorem cw130 : lw_tbl[1153]? = some (Cond.code (mi_y m130) (mi_cc m130) (mi_mx m130) (mi_rt m130)) := rfl
theorem cd130 : Cd m130 := ⟨tw_in 1153 cw130 rfl, by decide +kernel⟩
set_option maxRecDepth 20000 in
theorem cw131 : lw_tbl[1157]? = some (Cond.code (mi_y m131) (mi_cc m131) (mi_mx m131) (mi_rt m131)) := rfl
theorem cd131 : Cd m131 := ⟨tw_in 1157 cw131 rfl, by decide +kernel⟩
set_option maxRecDepth 20000 in
theorem cw132 : lw_tbl[1161]? = some (Cond.code (mi_y m132) (mi_cc m132) (mi_mx m132) (mi_rt m132)) := rfl
theorem cd132 : Cd m132 := ⟨tw_in 1161 cw132 rfl, by decide +kernel⟩
set_option maxRecDepth 20000 in
theorem cw133 : lw_tbl[1165]? = some (Cond.code (mi_y m133) (mi_cc m133) (mi_mx m133) (mi_rt m133)) := rfl
theorem cd133 : Cd m133 := ⟨tw_in 1165 cw133 rfl, by decide +kernel⟩
set_option maxRecDepth 20000 in
theorem cw134 : lw_tbl[1169]? = some (Cond.code (mi_y m134) (mi_cc m134) (mi_mx m134) (mi_rt m134)) := rfl
theorem cd134 : Cd m134 := ⟨tw_in 1169 cw134 rfl, by decide +kernel⟩
set_option maxRecDepth 20000 in
theorem cw135 : lw_tbl[1173]? = some (Cond.code (mi_y m135) (mi_cc m135) (mi_mx m135) (mi_rt m135)) := rfl
theorem cd135 : Cd m135 := ⟨tw_in 1173 cw135 rfl, by decide +kernel⟩
set_option maxRecDepth 20000 in
theorem cw136 : lw_tbl[1177]? = some (Cond.code (mi_y m136) (mi_cc m136) (mi_mx m136) (mi_rt m136)) := rfl
theorem cd136 : Cd m136 := ⟨tw_in 1177 cw136 rfl, by decide +kernel⟩
set_option maxRecDepth 20000 in
theorem cw137 : lw_tbl[1182]? = some (Cond.code (mi_y m137) (mi_cc m137) (mi_mx m137) (mi_rt m137)) := rfl
theorem cd137 : Cd m137 := ⟨tw_in 1182 cw137 rfl, by decide +kernel⟩
set_option maxRecDepth 20000 in
theorem cw138 : lw_tbl[1187]? = some (Cond.code (mi_y m138) (mi_cc m138) (mi_mx m138) (mi_rt m138)) := rfl
theorem cd138 : Cd m138 := ⟨tw_in 1187 cw138 rfl, by decide +kernel⟩
set_option maxRecDepth 20000 in
theorem cw139 : lw_tbl[1192]? = some (Cond.code (mi_y m139) (mi_cc m139) (mi_mx m139) (mi_rt m139)) := rfl
theorem cd139 : Cd m139 := ⟨tw_in 1192 cw139 rfl, by decide +kernel⟩
set_option maxRecDepth 20000 in
theorem cw140 : lw_tbl[1196]? = some (Cond.code (mi_y m140) (mi_cc m140) (mi_mx m140) (mi_rt m140)) := rfl
theorem cd140 : Cd m140 := ⟨tw_in 1196 cw140 rfl, by decide +kernel⟩
set_option maxRecDepth 20000 in
theorem cw141 : lw_tbl[1201]? = some (Cond.code (mi_y m141) (mi_cc m141) (mi_mx m141) (mi_rt m141)) := rfl
theorem cd141 : Cd m141 := ⟨tw_in 1201 cw141 rfl, by decide +kernel⟩
set_option maxRecDepth 20000 in
theorem cw142 : lw_tbl[1205]? = some (Cond.code (mi_y m142) (mi_cc m142) (mi_mx m142) (mi_rt m142)) := rfl
theorem cd142 : Cd m142 := ⟨tw_in 1205 cw142 rfl, by decide +kernel⟩
set_option maxRecDepth 20000 in
theorem cw143 : lw_tbl[1212]? = some (Cond.code (mi_y m143) (mi_cc m143) (mi_mx m143) (mi_rt m143)) := rfl
theorem cd143 : Cd m143 := ⟨tw_in 1212 cw143 rfl, by decide +kernel⟩
set_option maxRecDepth 20000 in
theorem cw144 : lw_tbl[1216]? = some (Cond.code (mi_y m144) (mi_cc m144) (mi_mx m144) (mi_rt m144)) := rfl
theorem cd144 : Cd m144 := ⟨tw_in 1216 cw144 rfl, by decide +kernel⟩
set_option maxRecDepth 20000 in
theorem cw145 : lw_tbl[1224]? = some (Cond.code (mi_y m145) (mi_cc m145) (mi_mx m145) (mi_rt m145)) := rfl
theorem cd145 : Cd m145 := ⟨tw_in 1224 cw145 rfl, by decide +kernel⟩
set_option maxRecDepth 20000 in
theorem cw146 : lw_tbl[1228]? = some (Cond.code (mi_y m146) (mi_cc m146) (mi_mx m146) (mi_rt m146)) := rfl
theorem cd146 : Cd m146 := ⟨tw_in 1228 cw146 rfl, by decide +kernel⟩
set_option maxRecDepth 20000 in
theorem cw147 : lw_tbl[1233]? = some (Cond.code (mi_y m147) (mi_cc m147) (mi_mx m147) (mi_rt m147)) := rfl
theorem cd147 : Cd m147 := ⟨tw_in 1233 cw147 rfl, by decide +kernel⟩
set_option maxRecDepth 20000 in
theorem cw148 : lw_tbl[1237]? = some (Cond.code (mi_y m148) (mi_cc m148) (mi_mx m148) (mi_rt m148)) := rfl
theorem cd148 : Cd m148 := ⟨tw_in 1237 cw148 rfl, by decide +kernel⟩
set_option maxRecDepth 20000 in
theorem cw149 : lw_tbl[1242]? = some (Cond.code (mi_y m149) (mi_cc m149) (mi_mx m149) (mi_rt m149)) := rfl
theorem cd149 : Cd m149 := ⟨tw_in 1242 cw149 rfl, by decide +kernel⟩
set_option maxRecDepth 20000 in
theorem cw150 : lw_tbl[1247]? = some (Cond.code (mi_y m150) (mi_cc m150) (mi_mx m150) (mi_rt m150)) := rfl
theorem cd150 : Cd m150 := ⟨tw_in 1247 cw150 rfl, by decide +kernel⟩
set_option maxRecDepth 20000 in
theorem cw151 : lw_tbl[1252]? = some (Cond.code (mi_y m151) (mi_cc m151) (mi_mx m151) (mi_rt m151)) := rfl
theorem cd151 : Cd m151 := ⟨tw_in 1252 cw151 rfl, by decide +kernel⟩
set_option maxRecDepth 20000 in
theorem cw152 : lw_tbl[1257]? = some (Cond.code (mi_y m152) (mi_cc m152) (mi_mx m152) (mi_rt m152)) := rfl
theorem cd152 : Cd m152 := ⟨tw_in 1257 cw152 rfl, by decide +kernel⟩
set_option maxRecDepth 20000 in
theorem cw153 : lw_tbl[1263]? = some (Cond.code (mi_y m153) (mi_cc m153) (mi_mx m153) (mi_rt m153)) := rfl
theorem cd153 : Cd m153 := ⟨tw_in 1263 cw153 rfl, by decide +kernel⟩
set_option maxRecDepth 20000 in
theorem cw154 : lw_tbl[1266]? = some (Cond.code (mi_y m154) (mi_cc m154) (mi_mx m154) (mi_rt m154)) := rfl
theorem cd154 : Cd m154 := ⟨tw_in 1266 cw154 rfl, by decide +kernel⟩
set_option maxRecDepth 20000 in
theorem cw155 : lw_tbl[1270]? = some (Cond.code (mi_y m155) (mi_cc m155) (mi_mx m155) (mi_rt m155)) := rfl
theorem cd155 : Cd m155 := ⟨tw_in 1270 cw155 rfl, by decide +kernel⟩
set_option maxRecDepth 20000 in
theorem cw156 : lw_tbl[1275]? = some (Cond.code (mi_y m156) (mi_cc m156) (mi_mx m156) (mi_rt m156)) := rfl
theorem cd156 : Cd m156 := ⟨tw_in 1275 cw156 rfl, by decide +kernel⟩
set_option maxRecDepth 20000 in
theorem cw157 : lw_tbl[1279]? = some (Cond.code (mi_y m157) (mi_cc m157) (mi_mx m157) (mi_rt m157)) := rfl
theorem cd157 : Cd m157 := ⟨tw_in 1279 cw157 rfl, by decide +kernel⟩
set_option maxRecDepth 20000 in
theorem cw158 : lw_tbl[1283]? = some (Cond.code (mi_y m158) (mi_cc m158) (mi_mx m158) (mi_rt m158)) := rfl
theorem cd158 : Cd m158 := ⟨tw_in 1283 cw158 rfl, by decide +kernel⟩
set_option maxRecDepth 20000 in
theorem cw159 : lw_tbl[1286]? = some (Cond.code (mi_y m159) (mi_cc m159) (mi_mx m159) (mi_rt m159)) := rfl
theorem cd159 : Cd m159 := ⟨tw_in 1286 cw159 rfl, by decide +kernel⟩
set_option maxRecDepth 20000 in
theorem cw160 : lw_tbl[1291]? = some (Cond.code (mi_y m160) (mi_cc m160) (mi_mx m160) (mi_rt m160)) := rfl
theorem cd160 : Cd m160 := ⟨tw_in 1291 cw160 rfl, by decide +kernel⟩
set_option maxRecDepth 20000 in
theorem cw161 : lw_tbl[1295]? = some (Cond.code (mi_y m161) (mi_cc m161) (mi_mx m161) (mi_rt m161)) := rfl
theorem cd161 : Cd m161 := ⟨tw_in 1295 cw161 rfl, by decide +kernel⟩
set_option maxRecDepth 20000 in
theorem cw162 : lw_tbl[1303]? = some (Cond.code (mi_y m162) (mi_cc m162) (mi_mx m162) (mi_rt m162)) := rfl
theorem cd162 : Cd m162 := ⟨tw_in 1303 cw162 rfl, by decide +kernel⟩
set_option maxRecDepth 20000 in
theorem cw163 : lw_tbl[1307]? = some (Cond.code (mi_y m163) (mi_cc m163) (mi_mx m163) (mi_rt m163)) := rfl
theorem cd163 : Cd m163 := ⟨tw_in 1307 cw163 rfl, by decide +kernel⟩
set_option maxRecDepth 20000 in
theorem cw164 : lw_tbl[1311]? = some (Cond.code (mi_y m164) (mi_cc m164) (mi_mx m164) (mi_rt m164)) := rfl
theorem cd164 : Cd m164 := ⟨tw_in 1311 cw164 rfl, by decide +kernel⟩
set_option maxRecDepth 20000 in
theorem cw165 : lw_tbl[1315]? = some (Cond.code (mi_y m165) (mi_cc m165) (mi_mx m165) (mi_rt m165)) := rfl
theorem cd165 : Cd m165 := ⟨tw_in 1315 cw165 rfl, by decide +kernel⟩
set_option maxRecDepth 20000 in
theorem cw166 : lw_tbl[1319]? = some (Cond.code (mi_y m166) (mi_cc m166) (mi_mx m166) (mi_rt m166)) := rfl
theorem cd166 : Cd m166 := ⟨tw_in 1319 cw166 rfl, by decide +kernel⟩
set_option maxRecDepth 20000 in
theorem cw167 : lw_tbl[1324]? = some (Cond.code (mi_y m167) (mi_cc m167) (mi_mx m167) (mi_rt m167)) := rfl
theorem cd167 : Cd m167 := ⟨tw_in 1324 cw167 rfl, by decide +kernel⟩
set_option maxRecDepth 20000 in
theorem cw168 : lw_tbl[1328]? = some (Cond.code (mi_y m168) (mi_cc m168) (mi_mx m168) (mi_rt m168)) := rfl
theorem cd168 : Cd m168 := ⟨tw_in 1328 cw168 rfl, by decide +kernel⟩
set_option maxRecDepth 20000 in
theorem cw169 : lw_tbl[1332]? = some (Cond.code (mi_y m169) (mi_cc m169) (mi_mx m169) (mi_rt m169)) := rfl
theorem cd169 : Cd m169 := ⟨tw_in 1332 cw169 rfl, by decide +kernel⟩
set_option maxRecDepth 20000 in
theorem cw170 : lw_tbl[1336]? = some (Cond.code (mi_y m170) (mi_cc m170) (mi_mx m170) (mi_rt m170)) := rfl
theorem cd170 : Cd m170 := ⟨tw_in 1336 cw170 rfl, by decide +kernel⟩
set_option maxRecDepth 20000 in
theorem cw171 : lw_tbl[1340]? = some (Cond.code (mi_y m171) (mi_cc m171) (mi_mx m171) (mi_rt m171)) := rfl
theorem cd171 : Cd m171 := ⟨tw_in 1340 cw171 rfl, by decide +kernel⟩
set_option maxRecDepth 20000 in
theorem cw172 : lw_tbl[1344]? = some (Cond.code (mi_y m172) (mi_cc m172) (mi_mx m172) (mi_rt m172)) := rfl
theorem cd172 : Cd m172 := ⟨tw_in 1344 cw172 rfl, by decide +kernel⟩
set_option maxRecDepth 20000 in
theorem cw173 : lw_tbl[1348]? = some (Cond.code (mi_y m173) (mi_cc m173) (mi_mx m173) (mi_rt m173)) := rfl
theorem cd173 : Cd m173 := ⟨tw_in 1348 cw173 rfl, by decide +kernel⟩
set_option maxRecDepth 20000 in
theorem cw174 : lw_tbl[1352]? = some (Cond.code (mi_y m174) (mi_cc m174) (mi_mx m174) (mi_rt m174)) := rfl
theorem cd174 : Cd m174 := ⟨tw_in 1352 cw174 rfl, by decide +kernel⟩
set_option maxRecDepth 20000 in
theorem cw175 : lw_tbl[1356]? = some (Cond.code (mi_y m175) (mi_cc m175) (mi_mx m175) (mi_rt m175)) := rfl
theorem cd175 : Cd m175 := ⟨tw_in 1356 cw175 rfl, by decide +kernel⟩
set_option maxRecDepth 20000 in
theorem cw176 : lw_tbl[1360]? = some (Cond.code (mi_y m176) (mi_cc m176) (mi_mx m176) (mi_rt m176)) := rfl
theorem cd176 : Cd m176 := ⟨tw_in 1360 cw176 rfl, by decide +kernel⟩
set_option maxRecDepth 20000 in
theorem cw177 : lw_tbl[1364]? = some (Cond.code (mi_y m177) (mi_cc m177) (mi_mx m177) (mi_rt m177)) := rfl
theorem cd177 : Cd m177 := ⟨tw_in 1364 cw177 rfl, by decide +kernel⟩
set_option maxRecDepth 20000 in
theorem cw178 : lw_tbl[1368]? = some (Cond.code (mi_y m178) (mi_cc m178) (mi_mx m178) (mi_rt m178)) := rfl
theorem cd178 : Cd m178 := ⟨tw_in 1368 cw178 rfl, by decide +kernel⟩
set_option maxRecDepth 20000 in
theorem cw179 : lw_tbl[1372]? = some (Cond.code (mi_y m179) (mi_cc m179) (mi_mx m179) (mi_rt m179)) := rfl
theorem cd179 : Cd m179 := ⟨tw_in 1372 cw179 rfl, by decide +kernel⟩
set_option maxRecDepth 20000 in
theorem cw180 : lw_tbl[1376]? = some (Cond.code (mi_y m180) (mi_cc m180) (mi_mx m180) (mi_rt m180)) := rfl
theorem cd180 : Cd m180 := ⟨tw_in 1376 cw180 rfl, by decide +kernel⟩
set_option maxRecDepth 20000 in
theorem cw181 : lw_tbl[1384]? = some (Cond.code (mi_y m181) (mi_cc m181) (mi_mx m181) (mi_rt m181)) := rfl
theorem cd181 : Cd m181 := ⟨tw_in 1384 cw181 rfl, by decide +kernel⟩
set_option maxRecDepth 20000 in
theorem cw182 : lw_tbl[1454]? = some (Cond.code (mi_y m182) (mi_cc m182) (mi_mx m182) (mi_rt m182)) := rfl
theorem cd182 : Cd m182 := ⟨tw_in 1454 cw182 rfl, by decide +kernel⟩
set_option maxRecDepth 20000 in
theorem cw183 : lw_tbl[1571]? = some (Cond.code (mi_y m183) (mi_cc m183) (mi_mx m183) (mi_rt m183)) := rfl
theorem cd183 : Cd m183 := ⟨tw_in 1571 cw183 rfl, by decide +kernel⟩
set_option maxRecDepth 20000 in
theorem cw184 : lw_tbl[1575]? = some (Cond.code (mi_y m184) (mi_cc m184) (mi_mx m184) (mi_rt m184)) := rfl
theorem cd184 : Cd m184 := ⟨tw_in 1575 cw184 rfl, by decide +kernel⟩
set_option maxRecDepth 20000 in
theorem cw185 : lw_tbl[1579]? = some (Cond.code (mi_y m185) (mi_cc m185) (mi_mx m185) (mi_rt m185)) := rfl
theorem cd185 : Cd m185 := ⟨tw_in 1579 cw185 rfl, by decide +kernel⟩
set_option maxRecDepth 20000 in
theorem cw186 : lw_tbl[1583]? = some (Cond.code (mi_y m186) (mi_cc m186) (mi_mx m186) (mi_rt m186)) := rfl
theorem cd186 : Cd m186 := ⟨tw_in 1583 cw186 rfl, by decide +kernel⟩
set_option maxRecDepth 20000 in
theorem cw187 : lw_tbl[1588]? = some (Cond.code (mi_y m187) (mi_cc m187) (mi_mx m187) (mi_rt m187)) := rfl
theorem cd187 : Cd m187 := ⟨tw_in 1588 cw187 rfl, by decide +kernel⟩
set_option maxRecDepth 20000 in
theorem cw188 : lw_tbl[1709]? = some (Cond.code (mi_y m188) (mi_cc m188) (mi_mx m188) (mi_rt m188)) := rfl
theorem cd188 : Cd m188 := ⟨tw_in 1709 cw188 rfl, by decide +kernel⟩
set_option maxRecDepth 20000 in
theorem cw189 : lw_tbl[1713]? = some (Cond.code (mi_y m189) (mi_cc m189) (mi_mx m189) (mi_rt m189)) := rfl
theorem cd189 : Cd m189 := ⟨tw_in 1713 cw189 rfl, by decide +kernel⟩
set_option maxRecDepth 20000 in
theorem cw190 : lw_tbl[1716]? = some (Cond.code (mi_y m190) (mi_cc m190) (mi_mx m190) (mi_rt m190)) := rfl
theorem cd190 : Cd m190 := ⟨tw_in 1716 cw190 rfl, by decide +kernel⟩
set_option maxRecDepth 20000 in
theorem cw191 : lw_tbl[1720]? = some (Cond.code (mi_y m191) (mi_cc m191) (mi_mx m191) (mi_rt m191)) := rfl
theorem cd191 : Cd m191 := ⟨tw_in 1720 cw191 rfl, by decide +kernel⟩
set_option maxRecDepth 20000 in
theorem cw192 : lw_tbl[1724]? = some (Cond.code (mi_y m192) (mi_cc m192) (mi_mx m192) (mi_rt m192)) := rfl
theorem cd192 : Cd m192 := ⟨tw_in 1724 cw192 rfl, by decide +kernel⟩
set_option maxRecDepth 20000 in
theorem cw193 : lw_tbl[1728]? = some (Cond.code (mi_y m193) (mi_cc m193) (mi_mx m193) (mi_rt m193)) := rfl
theorem cd193 : Cd m193 := ⟨tw_in 1728 cw193 rfl, by decide +kernel⟩
set_option maxRecDepth 20000 in
theorem cw194 : lw_tbl[1733]? = some (Cond.code (mi_y m194) (mi_cc m194) (mi_mx m194) (mi_rt m194)) := rfl
theorem cd194 : Cd m194 := ⟨tw_in 1733 cw194 rfl, by decide +kernel⟩
set_option maxRecDepth 20000 in
theorem cw195 : lw_tbl[1736]? = some (Cond.code (mi_y m195) (mi_cc m195) (mi_mx m195) (mi_rt m195)) := rfl
theorem cd195 : Cd m195 := ⟨tw_in 1736 cw195 rfl, by decide +kernel⟩
set_option maxRecDepth 20000 in
theorem cw196 : lw_tbl[1742]? = some (Cond.code (mi_y m196) (mi_cc m196) (mi_mx m196) (mi_rt m196)) := rfl
theorem cd196 : Cd m196 := ⟨tw_in 1742 cw196 rfl, by decide +kernel⟩
set_option maxRecDepth 20000 in
theorem cw197 : lw_tbl[1746]? = some (Cond.code (mi_y m197) (mi_cc m197) (mi_mx m197) (mi_rt m197)) := rfl
theorem cd197 : Cd m197 := ⟨tw_in 1746 cw197 rfl, by decide +kernel⟩
set_option maxRecDepth 20000 in
theorem cw198 : lw_tbl[1751]? = some (Cond.code (mi_y m198) (mi_cc m198) (mi_mx m198) (mi_rt m198)) := rfl
theorem cd198 : Cd m198 := ⟨tw_in 1751 cw198 rfl, by decide +kernel⟩
set_option maxRecDepth 20000 in
theorem cw199 : lw_tbl[1755]? = some (Cond.code (mi_y m199) (mi_cc m199) (mi_mx m199) (mi_rt m199)) := rfl
theorem cd199 : Cd m199 := ⟨tw_in 1755 cw199 rfl, by decide +kernel⟩
set_option maxRecDepth 20000 in
theorem cw200 : lw_tbl[1759]? = some (Cond.code (mi_y m200) (mi_cc m200) (mi_mx m200) (mi_rt m200)) := rfl
theorem cd200 : Cd m200 := ⟨tw_in 1759 cw200 rfl, by decide +kernel⟩
set_option maxRecDepth 20000 in
theorem cw201 : lw_tbl[1762]? = some (Cond.code (mi_y m201) (mi_cc m201) (mi_mx m201) (mi_rt m201)) := rfl
theorem cd201 : Cd m201 := ⟨tw_in 1762 cw201 rfl, by decide +kernel⟩
set_option maxRecDepth 20000 in
theorem cw202 : lw_tbl[1767]? = some (Cond.code (mi_y m202) (mi_cc m202) (mi_mx m202) (mi_rt m202)) := rfl
theorem cd202 : Cd m202 := ⟨tw_in 1767 cw202 rfl, by decide +kernel⟩
set_option maxRecDepth 20000 in
theorem cw203 : lw_tbl[1771]? = some (Cond.code (mi_y m203) (mi_cc m203) (mi_mx m203) (mi_rt m203)) := rfl
theorem cd203 : Cd m203 := ⟨tw_in 1771 cw203 rfl, by decide +kernel⟩
set_option maxRecDepth 20000 in
theorem cw204 : lw_tbl[1775]? = some (Cond.code (mi_y m204) (mi_cc m204) (mi_mx m204) (mi_rt m204)) := rfl
theorem cd204 : Cd m204 := ⟨tw_in 1775 cw204 rfl, by decide +kernel⟩
set_option maxRecDepth 20000 in
theorem cw205 : lw_tbl[1779]? = some (Cond.code (mi_y m205) (mi_cc m205) (mi_mx m205) (mi_rt m205)) := rfl
theorem cd205 : Cd m205 := ⟨tw_in 1779 cw205 rfl, by decide +kernel⟩
set_option maxRecDepth 20000 in
theorem cw206 : lw_tbl[1790]? = some (Cond.code (mi_y m206) (mi_cc m206) (mi_mx m206) (mi_rt m206)) := rfl
theorem cd206 : Cd m206 := ⟨tw_in 1790 cw206 rfl, by decide +kernel⟩
set_option maxRecDepth 20000 in
theorem cw207 : lw_tbl[1797]? = some (Cond.code (mi_y m207) (mi_cc m207) (mi_mx m207) (mi_rt m207)) := rfl
theorem cd207 : Cd m207 := ⟨tw_in 1797 cw207 rfl, by decide +kernel⟩
set_option maxRecDepth 20000 in
theorem cw208 : lw_tbl[1801]? = some (Cond.code (mi_y m208) (mi_cc m208) (mi_mx m208) (mi_rt m208)) := rfl
theorem cd208 : Cd m208 := ⟨tw_in 1801 cw208 rfl, by decide +kernel⟩
set_option maxRecDepth 20000 in
theorem cw209 : lw_tbl[1805]? = some (Cond.code (mi_y m209) (mi_cc m209) (mi_mx m209) (mi_rt m209)) := rfl
theorem cd209 : Cd m209 := ⟨tw_in 1805 cw209 rfl, by decide +kernel⟩
set_option maxRecDepth 20000 in
theorem cw210 : lw_tbl[1809]? = some (Cond.code (mi_y m210) (mi_cc m210) (mi_mx m210) (mi_rt m210)) := rfl
theorem cd210 : Cd m210 := ⟨tw_in 1809 cw210 rfl, by decide +kernel⟩
set_option maxRecDepth 20000 in
theorem cw211 : lw_tbl[1813]? = some (Cond.code (mi_y m211) (mi_cc m211) (mi_mx m211) (mi_rt m211)) := rfl
theorem cd211 : Cd m211 := ⟨tw_in 1813 cw211 rfl, by decide +kernel⟩
set_option maxRecDepth 20000 in
theorem cw212 : lw_tbl[1817]? = some (Cond.code (mi_y m212) (mi_cc m212) (mi_mx m212) (mi_rt m212)) := rfl
theorem cd212 : Cd m212 := ⟨tw_in 1817 cw212 rfl, by decide +kernel⟩
set_option maxRecDepth 20000 in
theorem cw213 : lw_tbl[1821]? = some (Cond.code (mi_y m213) (mi_cc m213) (mi_mx m213) (mi_rt m213)) := rfl
theorem cd213 : Cd m213 := ⟨tw_in 1821 cw213 rfl, by decide +kernel⟩
set_option maxRecDepth 20000 in
theorem cw214 : lw_tbl[1829]? = some (Cond.code (mi_y m214) (mi_cc m214) (mi_mx m214) (mi_rt m214)) := rfl
theorem cd214 : Cd m214 := ⟨tw_in 1829 cw214 rfl, by decide +kernel⟩
set_option maxRecDepth 20000 in
theorem cw215 : lw_tbl[1833]? = some (Cond.code (mi_y m215) (mi_cc m215) (mi_mx m215) (mi_rt m215)) := rfl
theorem cd215 : Cd m215 := ⟨tw_in 1833 cw215 rfl, by decide +kernel⟩
set_option maxRecDepth 20000 in
theorem cw216 : lw_tbl[1838]? = some (Cond.code (mi_y m216) (mi_cc m216) (mi_mx m216) (mi_rt m216)) := rfl
theorem cd216 : Cd m216 := ⟨tw_in 1838 cw216 rfl, by decide +kernel⟩
set_option maxRecDepth 20000 in
theorem cw217 : lw_tbl[1843]? = some (Cond.code (mi_y m217) (mi_cc m217) (mi_mx m217) (mi_rt m217)) := rfl
theorem cd217 : Cd m217 := ⟨tw_in 1843 cw217 rfl, by decide +kernel⟩
set_option maxRecDepth 20000 in
theorem cw218 : lw_tbl[1849]? = some (Cond.code (mi_y m218) (mi_cc m218) (mi_mx m218) (mi_rt m218)) := rfl
theorem cd218 : Cd m218 := ⟨tw_in 1849 cw218 rfl, by decide +kernel⟩
set_option maxRecDepth 20000 in
theorem cw219 : lw_tbl[1853]? = some (Cond.code (mi_y m219) (mi_cc m219) (mi_mx m219) (mi_rt m219)) := rfl
theorem cd219 : Cd m219 := ⟨tw_in 1853 cw219 rfl, by decide +kernel⟩
set_option maxRecDepth 20000 in
theorem cw220 : lw_tbl[1857]? = some (Cond.code (mi_y m220) (mi_cc m220) (mi_mx m220) (mi_rt m220)) := rfl
theorem cd220 : Cd m220 := ⟨tw_in 1857 cw220 rfl, by decide +kernel⟩
set_option maxRecDepth 20000 in
theorem cw221 : lw_tbl[1863]? = some (Cond.code (mi_y m221) (mi_cc m221) (mi_mx m221) (mi_rt m221)) := rfl
theorem cd221 : Cd m221 := ⟨tw_in 1863 cw221 rfl, by decide +kernel⟩
set_option maxRecDepth 20000 in
theorem cw222 : lw_tbl[1867]? = some (Cond.code (mi_y m222) (mi_cc m222) (mi_mx m222) (mi_rt m222)) := rfl
theorem cd222 : Cd m222 := ⟨tw_in 1867 cw222 rfl, by decide +kernel⟩
set_option maxRecDepth 20000 in
theorem cw223 : lw_tbl[1870]? = some (Cond.code (mi_y m223) (mi_cc m223) (mi_mx m223) (mi_rt m223)) := rfl
theorem cd223 : Cd m223 := ⟨tw_in 1870 cw223 rfl, by decide +kernel⟩
set_option maxRecDepth 20000 in
theorem cw224 : lw_tbl[1874]? = some (Cond.code (mi_y m224) (mi_cc m224) (mi_mx m224) (mi_rt m224)) := rfl
theorem cd224 : Cd m224 := ⟨tw_in 1874 cw224 rfl, by decide +kernel⟩
set_option maxRecDepth 20000 in
theorem cw225 : lw_tbl[1878]? = some (Cond.code (mi_y m225) (mi_cc m225) (mi_mx m225) (mi_rt m225)) := rfl
theorem cd225 : Cd m225 := ⟨tw_in 1878 cw225 rfl, by decide +kernel⟩
set_option maxRecDepth 20000 in
theorem cw226 : lw_tbl[1882]? = some (Cond.code (mi_y m226) (mi_cc m226) (mi_mx m226) (mi_rt m226)) := rfl
theorem cd226 : Cd m226 := ⟨tw_in 1882 cw226 rfl, by decide +kernel⟩
set_option maxRecDepth 20000 in
theorem cw227 : lw_tbl[1886]? = some (Cond.code (mi_y m227) (mi_cc m227) (mi_mx m227) (mi_rt m227)) := rfl
theorem cd227 : Cd m227 := ⟨tw_in 1886 cw227 rfl, by decide +kernel⟩
set_option maxRecDepth 20000 in
theorem cw228 : lw_tbl[1890]? = some (Cond.code (mi_y m228) (mi_cc m228) (mi_mx m228) (mi_rt m228)) := rfl
theorem cd228 : Cd m228 := ⟨tw_in 1890 cw228 rfl, by decide +kernel⟩
set_option maxRecDepth 20000 in
theorem cw229 : lw_tbl[1894]? = some (Cond.code (mi_y m229) (mi_cc m229) (mi_mx m229) (mi_rt m229)) := rfl
theorem cd229 : Cd m229 := ⟨tw_in 1894 cw229 rfl, by decide +kernel⟩
set_option maxRecDepth 20000 in
theorem cw230 : lw_tbl[1898]? = some (Cond.code (mi_y m230) (mi_cc m230) (mi_mx m230) (mi_rt m230)) := rfl
theorem cd230 : Cd m230 := ⟨tw_in 1898 cw230 rfl, by decide +kernel⟩
set_option maxRecDepth 20000 in
theorem cw231 : lw_tbl[1902]? = some (Cond.code (mi_y m231) (mi_cc m231) (mi_mx m231) (mi_rt m231)) := rfl
theorem cd231 : Cd m231 := ⟨tw_in 1902 cw231 rfl, by decide +kernel⟩
set_option maxRecDepth 20000 in
theorem cw232 : lw_tbl[1905]? = some (Cond.code (mi_y m232) (mi_cc m232) (mi_mx m232) (mi_rt m232)) := rfl
theorem cd232 : Cd m232 := ⟨tw_in 1905 cw232 rfl, by decide +kernel⟩
set_option maxRecDepth 20000 in
theorem cw233 : lw_tbl[1909]? = some (Cond.code (mi_y m233) (mi_cc m233) (mi_mx m233) (mi_rt m233)) := rfl
theorem cd233 : Cd m233 := ⟨tw_in 1909 cw233 rfl, by decide +kernel⟩
set_option maxRecDepth 20000 in
theorem cw234 : lw_tbl[1913]? = some (Cond.code (mi_y m234) (mi_cc m234) (mi_mx m234) (mi_rt m234)) := rfl
theorem cd234 : Cd m234 := ⟨tw_in 1913 cw234 rfl, by decide +kernel⟩
set_option maxRecDepth 20000 in
theorem cw235 : lw_tbl[1917]? = some (Cond.code (mi_y m235) (mi_cc m235) (mi_mx m235) (mi_rt m235)) := rfl
theorem cd235 : Cd m235 := ⟨tw_in 1917 cw235 rfl, by decide +kernel⟩
set_option maxRecDepth 20000 in
theorem cw236 : lw_tbl[1921]? = some (Cond.code (mi_y m236) (mi_cc m236) (mi_mx m236) (mi_rt m236)) := rfl
theorem cd236 : Cd m236 := ⟨tw_in 1921 cw236 rfl, by decide +kernel⟩
set_option maxRecDepth 20000 in
theorem cw237 : lw_tbl[1924]? = some (Cond.code (mi_y m237) (mi_cc m237) (mi_mx m237) (mi_rt m237)) := rfl
theorem cd237 : Cd m237 := ⟨tw_in 1924 cw237 rfl, by decide +kernel⟩
set_option maxRecDepth 20000 in
theorem cw238 : lw_tbl[1927]? = some (Cond.code (mi_y m238) (mi_cc m238) (mi_mx m238) (mi_rt m238)) := rfl
theorem cd238 : Cd m238 := ⟨tw_in 1927 cw238 rfl, by decide +kernel⟩
set_option maxRecDepth 20000 in
theorem cw239 : lw_tbl[1931]? = some (Cond.code (mi_y m239) (mi_cc m239) (mi_mx m239) (mi_rt m239)) := rfl
theorem cd239 : Cd m239 := ⟨tw_in 1931 cw239 rfl, by decide +kernel⟩
set_option maxRecDepth 20000 in
theorem cw240 : lw_tbl[1935]? = some (Cond.code (mi_y m240) (mi_cc m240) (mi_mx m240) (mi_rt m240)) := rfl
theorem cd240 : Cd m240 := ⟨tw_in 1935 cw240 rfl, by decide +kernel⟩
set_option maxRecDepth 20000 in
theorem cw241 : lw_tbl[1939]? = some (Cond.code (mi_y m241) (mi_cc m241) (mi_mx m241) (mi_rt m241)) := rfl
theorem cd241 : Cd m241 := ⟨tw_in 1939 cw241 rfl, by decide +kernel⟩
set_option maxRecDepth 20000 in
theorem cw242 : lw_tbl[1943]? = some (Cond.code (mi_y m242) (mi_cc m242) (mi_mx m242) (mi_rt m242)) := rfl
theorem cd242 : Cd m242 := ⟨tw_in 1943 cw242 rfl, by decide +kernel⟩
set_option maxRecDepth 20000 in
theorem cw243 : lw_tbl[1947]? = some (Cond.code (mi_y m243) (mi_cc m243) (mi_mx m243) (mi_rt m243)) := rfl
theorem cd243 : Cd m243 := ⟨tw_in 1947 cw243 rfl, by decide +kernel⟩
set_option maxRecDepth 20000 in
theorem cw244 : lw_tbl[1951]? = some (Cond.code (mi_y m244) (mi_cc m244) (mi_mx m244) (mi_rt m244)) := rfl
theorem cd244 : Cd m244 := ⟨tw_in 1951 cw244 rfl, by decide +kernel⟩
set_option maxRecDepth 20000 in
theorem cw245 : lw_tbl[1955]? = some (Cond.code (mi_y m245) (mi_cc m245) (mi_mx m245) (mi_rt m245)) := rfl
theorem cd245 : Cd m245 := ⟨tw_in 1955 cw245 rfl, by decide +kernel⟩
set_option maxRecDepth 20000 in
theorem cw246 : lw_tbl[1959]? = some (Cond.code (mi_y m246) (mi_cc m246) (mi_mx m246) (mi_rt m246)) := rfl
theorem cd246 : Cd m246 := ⟨tw_in 1959 cw246 rfl, by decide +kernel⟩
set_option maxRecDepth 20000 in
theorem cw247 : lw_tbl[1963]? = some (Cond.code (mi_y m247) (mi_cc m247) (mi_mx m247) (mi_rt m247)) := rfl
theorem cd247 : Cd m247 := ⟨tw_in 1963 cw247 rfl, by decide +kernel⟩
set_option maxRecDepth 20000 in
theorem cw248 : lw_tbl[1967]? = some (Cond.code (mi_y m248) (mi_cc m248) (mi_mx m248) (mi_rt m248)) := rfl
theorem cd248 : Cd m248 := ⟨tw_in 1967 cw248 rfl, by decide +kernel⟩
set_option maxRecDepth 20000 in
theorem cw249 : lw_tbl[1971]? = some (Cond.code (mi_y m249) (mi_cc m249) (mi_mx m249) (mi_rt m249)) := rfl
theorem cd249 : Cd m249 := ⟨tw_in 1971 cw249 rfl, by decide +kernel⟩
set_option maxRecDepth 20000 in
theorem cw250 : lw_tbl[1975]? = some (Cond.code (mi_y m250) (mi_cc m250) (mi_mx m250) (mi_rt m250)) := rfl
theorem cd250 : Cd m250 := ⟨tw_in 1975 cw250 rfl, by decide +kernel⟩
set_option maxRecDepth 20000 in
theorem cw251 : lw_tbl[1979]? = some (Cond.code (mi_y m251) (mi_cc m251) (mi_mx m251) (mi_rt m251)) := rfl
theorem cd251 : Cd m251 := ⟨tw_in 1979 cw251 rfl, by decide +kernel⟩
set_option maxRecDepth 20000 in
theorem cw252 : lw_tbl[1983]? = some (Cond.code (mi_y m252) (mi_cc m252) (mi_mx m252) (mi_rt m252)) := rfl
theorem cd252 : Cd m252 := ⟨tw_in 1983 cw252 rfl, by decide +kernel⟩
set_option maxRecDepth 20000 in
theorem cw253 : lw_tbl[1987]? = some (Cond.code (mi_y m253) (mi_cc m253) (mi_mx m253) (mi_rt m253)) := rfl
theorem cd253 : Cd m253 := ⟨tw_in 1987 cw253 rfl, by decide +kernel⟩
set_option maxRecDepth 20000 in
theorem cw254 : lw_tbl[1991]? = some (Cond.code (mi_y m254) (mi_cc m254) (mi_mx m254) (mi_rt m254)) := rfl
theorem cd254 : Cd m254 := ⟨tw_in 1991 cw254 rfl, by decide +kernel⟩
set_option maxRecDepth 20000 in
theorem cw255 : lw_tbl[1995]? = some (Cond.code (mi_y m255) (mi_cc m255) (mi_mx m255) (mi_rt m255)) := rfl
theorem cd255 : Cd m255 := ⟨tw_in 1995 cw255 rfl, by decide +kernel⟩
set_option maxRecDepth 20000 in
theorem cw256 : lw_tbl[1999]? = some (Cond.code (mi_y m256) (mi_cc m256) (mi_mx m256) (mi_rt m256)) := rfl
theorem cd256 : Cd m256 := ⟨tw_in 1999 cw256 rfl, by decide +kernel⟩
set_option maxRecDepth 20000 in
theorem cw257 : lw_tbl[2003]? = some (Cond.code (mi_y m257) (mi_cc m257) (mi_mx m257) (mi_rt m257)) := rfl
theorem cd257 : Cd m257 := ⟨tw_in 2003 cw257 rfl, by decide +kernel⟩
set_option maxRecDepth 20000 in
theorem cw258 : lw_tbl[2007]? = some (Cond.code (mi_y m258) (mi_cc m258) (mi_mx m258) (mi_rt m258)) := rfl
theorem cd258 : Cd m258 := ⟨tw_in 2007 cw258 rfl, by decide +kernel⟩
set_option maxRecDepth 20000 in
theorem cw259 : lw_tbl[2011]? = some (Cond.code (mi_y m259) (mi_cc m259) (mi_mx m259) (mi_rt m259)) := rfl
theorem cd259 : Cd m259 := ⟨tw_in 2011 cw259 rfl, by decide +kernel⟩
set_option maxRecDepth 20000 in
theorem cw260 : lw_tbl[2015]? = some (Cond.code (mi_y m260) (mi_cc m260) (mi_mx m260) (mi_rt m260)) := rfl
theorem cd260 : Cd m260 := ⟨tw_in 2015 cw260 rfl, by decide +kernel⟩
set_option maxRecDepth 20000 in
theorem cw261 : lw_tbl[2019]? = some (Cond.code (mi_y m261) (mi_cc m261) (mi_mx m261) (mi_rt m261)) := rfl
theorem cd261 : Cd m261 := ⟨tw_in 2019 cw261 rfl, by decide +kernel⟩
set_option maxRecDepth 20000 in
theorem cw262 : lw_tbl[2025]? = some (Cond.code (mi_y m262) (mi_cc m262) (mi_mx m262) (mi_rt m262)) := rfl
theorem cd262 : Cd m262 := ⟨tw_in 2025 cw262 rfl, by decide +kernel⟩
set_option maxRecDepth 20000 in
theorem cw263 : lw_tbl[2029]? = some (Cond.code (mi_y m263) (mi_cc m263) (mi_mx m263) (mi_rt m263)) := rfl
theorem cd263 : Cd m263 := ⟨tw_in 2029 cw263 rfl, by decide +kernel⟩
set_option maxRecDepth 20000 in
theorem cw264 : lw_tbl[2033]? = some (Cond.code (mi_y m264) (mi_cc m264) (mi_mx m264) (mi_rt m264)) := rfl
theorem cd264 : Cd m264 := ⟨tw_in 2033 cw264 rfl, by decide +kernel⟩
set_option maxRecDepth 20000 in
theorem cw265 : lw_tbl[2037]? = some (Cond.code (mi_y m265) (mi_cc m265) (mi_mx m265) (mi_rt m265)) := rfl
theorem cd265 : Cd m265 := ⟨tw_in 2037 cw265 rfl, by decide +kernel⟩
set_option maxRecDepth 20000 in
theorem cw266 : lw_tbl[2041]? = some (Cond.code (mi_y m266) (mi_cc m266) (mi_mx m266) (mi_rt m266)) := rfl
theorem cd266 : Cd m266 := ⟨tw_in 2041 cw266 rfl, by decide +kernel⟩
set_option maxRecDepth 20000 in
theorem cw267 : lw_tbl[2045]? = some (Cond.code (mi_y m267) (mi_cc m267) (mi_mx m267) (mi_rt m267)) := rfl
theorem cd267 : Cd m267 := ⟨tw_in 2045 cw267 rfl, by decide +kernel⟩
set_option maxRecDepth 20000 in
theorem cw268 : lw_tbl[2049]? = some (Cond.code (mi_y m268) (mi_cc m268) (mi_mx m268) (mi_rt m268)) := rfl
theorem cd268 : Cd m268 := ⟨tw_in 2049 cw268 rfl, by decide +kernel⟩
set_option maxRecDepth 20000 in
theorem cw269 : lw_tbl[2053]? = some (Cond.code (mi_y m269) (mi_cc m269) (mi_mx m269) (mi_rt m269)) := rfl
theorem cd269 : Cd m269 := ⟨tw_in 2053 cw269 rfl, by decide +kernel⟩
set_option maxRecDepth 20000 in
theorem cw270 : lw_tbl[2057]? = some (Cond.code (mi_y m270) (mi_cc m270) (mi_mx m270) (mi_rt m270)) := rfl
theorem cd270 : Cd m270 := ⟨tw_in 2057 cw270 rfl, by decide +kernel⟩
set_option maxRecDepth 20000 in
theorem cw271 : lw_tbl[2061]? = some (Cond.code (mi_y m271) (mi_cc m271) (mi_mx m271) (mi_rt m271)) := rfl
theorem cd271 : Cd m271 := ⟨tw_in 2061 cw271 rfl, by decide +kernel⟩
set_option maxRecDepth 20000 in
theorem cw272 : lw_tbl[2065]? = some (Cond.code (mi_y m272) (mi_cc m272) (mi_mx m272) (mi_rt m272)) := rfl
theorem cd272 : Cd m272 := ⟨tw_in 2065 cw272 rfl, by decide +kernel⟩
set_option maxRecDepth 20000 in
theorem cw273 : lw_tbl[2069]? = some (Cond.code (mi_y m273) (mi_cc m273) (mi_mx m273) (mi_rt m273)) := rfl
theorem cd273 : Cd m273 := ⟨tw_in 2069 cw273 rfl, by decide +kernel⟩
set_option maxRecDepth 20000 in
theorem cw274 : lw_tbl[2073]? = some (Cond.code (mi_y m274) (mi_cc m274) (mi_mx m274) (mi_rt m274)) := rfl
theorem cd274 : Cd m274 := ⟨tw_in 2073 cw274 rfl, by decide +kernel⟩
set_option maxRecDepth 20000 in
theorem cw275 : lw_tbl[2077]? = some (Cond.code (mi_y m275) (mi_cc m275) (mi_mx m275) (mi_rt m275)) := rfl
theorem cd275 : Cd m275 := ⟨tw_in 2077 cw275 rfl, by decide +kernel⟩
set_option maxRecDepth 20000 in
theorem cw276 : lw_tbl[2081]? = some (Cond.code (mi_y m276) (mi_cc m276) (mi_mx m276) (mi_rt m276)) := rfl
theorem cd276 : Cd m276 := ⟨tw_in 2081 cw276 rfl, by decide +kernel⟩
set_option maxRecDepth 20000 in
theorem cw277 : lw_tbl[2085]? = some (Cond.code (mi_y m277) (mi_cc m277) (mi_mx m277) (mi_rt m277)) := rfl
theorem cd277 : Cd m277 := ⟨tw_in 2085 cw277 rfl, by decide +kernel⟩
set_option maxRecDepth 20000 in
theorem cw278 : lw_tbl[2089]? = some (Cond.code (mi_y m278) (mi_cc m278) (mi_mx m278) (mi_rt m278)) := rfl
theorem cd278 : Cd m278 := ⟨tw_in 2089 cw278 rfl, by decide +kernel⟩
set_option maxRecDepth 20000 in
theorem cw279 : lw_tbl[2093]? = some (Cond.code (mi_y m279) (mi_cc m279) (mi_mx m279) (mi_rt m279)) := rfl
theorem cd279 : Cd m279 := ⟨tw_in 2093 cw279 rfl, by decide +kernel⟩
set_option maxRecDepth 20000 in
theorem cw280 : lw_tbl[2097]? = some (Cond.code (mi_y m280) (mi_cc m280) (mi_mx m280) (mi_rt m280)) := rfl
theorem cd280 : Cd m280 := ⟨tw_in 2097 cw280 rfl, by decide +kernel⟩
set_option maxRecDepth 20000 in
theorem cw281 : lw_tbl[2101]? = some (Cond.code (mi_y m281) (mi_cc m281) (mi_mx m281) (mi_rt m281)) := rfl
theorem cd281 : Cd m281 := ⟨tw_in 2101 cw281 rfl, by decide +kernel⟩
set_option maxRecDepth 20000 in
theorem cw282 : lw_tbl[2105]? = some (Cond.code (mi_y m282) (mi_cc m282) (mi_mx m282) (mi_rt m282)) := rfl
theorem cd282 : Cd m282 := ⟨tw_in 2105 cw282 rfl, by decide +kernel⟩
set_option maxRecDepth 20000 in
theorem cw283 : lw_tbl[2109]? = some (Cond.code (mi_y m283) (mi_cc m283) (mi_mx m283) (mi_rt m283)) := rfl
theorem cd283 : Cd m283 := ⟨tw_in 2109 cw283 rfl, by decide +kernel⟩
set_option maxRecDepth 20000 in
theorem cw284 : lw_tbl[2113]? = some (Cond.code (mi_y m284) (mi_cc m284) (mi_mx m284) (mi_rt m284)) := rfl
theorem cd284 : Cd m284 := ⟨tw_in 2113 cw284 rfl, by decide +kernel⟩
set_option maxRecDepth 20000 in
theorem cw285 : lw_tbl[2117]? = some (Cond.code (mi_y m285) (mi_cc m285) (mi_mx m285) (mi_rt m285)) := rfl
theorem cd285 : Cd m285 := ⟨tw_in 2117 cw285 rfl, by decide +kernel⟩
set_option maxRecDepth 20000 in
theorem cw286 : lw_tbl[2121]? = some (Cond.code (mi_y m286) (mi_cc m286) (mi_mx m286) (mi_rt m286)) := rfl
theorem cd286 : Cd m286 := ⟨tw_in 2121 cw286 rfl, by decide +kernel⟩
set_option maxRecDepth 20000 in
theorem cw287 : lw_tbl[2125]? = some (Cond.code (mi_y m287) (mi_cc m287) (mi_mx m287) (mi_rt m287)) := rfl
theorem cd287 : Cd m287 := ⟨tw_in 2125 cw287 rfl, by decide +kernel⟩
set_option maxRecDepth 20000 in
theorem cw288 : lw_tbl[2129]? = some (Cond.code (mi_y m288) (mi_cc m288) (mi_mx m288) (mi_rt m288)) := rfl
theorem cd288 : Cd m288 := ⟨tw_in 2129 cw288 rfl, by decide +kernel⟩
set_option maxRecDepth 20000 in
theorem cw289 : lw_tbl[2133]? = some (Cond.code (mi_y m289) (mi_cc m289) (mi_mx m289) (mi_rt m289)) := rfl
theorem cd289 : Cd m289 := ⟨tw_in 2133 cw289 rfl, by decide +kernel⟩
set_option maxRecDepth 20000 in
theorem cw290 : lw_tbl[2137]? = some (Cond.code (mi_y m290) (mi_cc m290) (mi_mx m290) (mi_rt m290)) := rfl
theorem cd290 : Cd m290 := ⟨tw_in 2137 cw290 rfl, by decide +kernel⟩
set_option maxRecDepth 20000 in
theorem cw291 : lw_tbl[2141]? = some (Cond.code (mi_y m291) (mi_cc m291) (mi_mx m291) (mi_rt m291)) := rfl
theorem cd291 : Cd m291 := ⟨tw_in 2141 cw291 rfl, by decide +kernel⟩
set_option maxRecDepth 20000 in
theorem cw292 : lw_tbl[2145]? = some (Cond.code (mi_y m292) (mi_cc m292) (mi_mx m292) (mi_rt m292)) := rfl
theorem cd292 : Cd m292 := ⟨tw_in 2145 cw292 rfl, by decide +kernel⟩
set_option maxRecDepth 20000 in
theorem cw293 : lw_tbl[2149]? = some (Cond.code (mi_y m293) (mi_cc m293) (mi_mx m293) (mi_rt m293)) := rfl
theorem cd293 : Cd m293 := ⟨tw_in 2149 cw293 rfl, by decide +kernel⟩
set_option maxRecDepth 20000 in
theorem cw294 : lw_tbl[2153]? = some (Cond.code (mi_y m294) (mi_cc m294) (mi_mx m294) (mi_rt m294)) := rfl
theorem cd294 : Cd m294 := ⟨tw_in 2153 cw294 rfl, by decide +kernel⟩
set_option maxRecDepth 20000 in
theorem cw295 : lw_tbl[2157]? = some (Cond.code (mi_y m295) (mi_cc m295) (mi_mx m295) (mi_rt m295)) := rfl
theorem cd295 : Cd m295 := ⟨tw_in 2157 cw295 rfl, by decide +kernel⟩
set_option maxRecDepth 20000 in
theorem cw296 : lw_tbl[2162]? = some (Cond.code (mi_y m296) (mi_cc m296) (mi_mx m296) (mi_rt m296)) := rfl
theorem cd296 : Cd m296 := ⟨tw_in 2162 cw296 rfl, by decide +kernel⟩
set_option maxRecDepth 20000 in
theorem cw297 : lw_tbl[2166]? = some (Cond.code (mi_y m297) (mi_cc m297) (mi_mx m297) (mi_rt m297)) := rfl
theorem cd297 : Cd m297 := ⟨tw_in 2166 cw297 rfl, by decide +kernel⟩
set_option maxRecDepth 20000 in
theorem cw298 : lw_tbl[2169]? = some (Cond.code (mi_y m298) (mi_cc m298) (mi_mx m298) (mi_rt m298)) := rfl
theorem cd298 : Cd m298 := ⟨tw_in 2169 cw298 rfl, by decide +kernel⟩
set_option maxRecDepth 20000 in
theorem cw299 : lw_tbl[2173]? = some (Cond.code (mi_y m299) (mi_cc m299) (mi_mx m299) (mi_rt m299)) := rfl
theorem cd299 : Cd m299 := ⟨tw_in 2173 cw299 rfl, by decide +kernel⟩
set_option maxRecDepth 20000 in
theorem cw300 : lw_tbl[2177]? = some (Cond.code (mi_y m300) (mi_cc m300) (mi_mx m300) (mi_rt m300)) := rfl
theorem cd300 : Cd m300 := ⟨tw_in 2177 cw300 rfl, by decide +kernel⟩
set_option maxRecDepth 20000 in
theorem cw301 : lw_tbl[2182]? = some (Cond.code (mi_y m301) (mi_cc m301) (mi_mx m301) (mi_rt m301)) := rfl
theorem cd301 : Cd m301 := ⟨tw_in 2182 cw301 rfl, by decide +kernel⟩
set_option maxRecDepth 20000 in
theorem cw302 : lw_tbl[2186]? = some (Cond.code (mi_y m302) (mi_cc m302) (mi_mx m302) (mi_rt m302)) := rfl
theorem cd302 : Cd m302 := ⟨tw_in 2186 cw302 rfl, by decide +kernel⟩
set_option maxRecDepth 20000 in
theorem cw303 : lw_tbl[2190]? = some (Cond.code (mi_y m303) (mi_cc m303) (mi_mx m303) (mi_rt m303)) := rfl
theorem cd303 : Cd m303 := ⟨tw_in 2190 cw303 rfl, by decide +kernel⟩
set_option maxRecDepth 20000 in
theorem cw304 : lw_tbl[2195]? = some (Cond.code (mi_y m304) (mi_cc m304) (mi_mx m304) (mi_rt m304)) := rfl
theorem cd304 : Cd m304 := ⟨tw_in 2195 cw304 rfl, by decide +kernel⟩
set_option maxRecDepth 20000 in
theorem cw305 : lw_tbl[2199]? = some (Cond.code (mi_y m305) (mi_cc m305) (mi_mx m305) (mi_rt m305)) := rfl
theorem cd305 : Cd m305 := ⟨tw_in 2199 cw305 rfl, by decide +kernel⟩
set_option maxRecDepth 20000 in
theorem cw306 : lw_tbl[2206]? = some (Cond.code (mi_y m306) (mi_cc m306) (mi_mx m306) (mi_rt m306)) := rfl
theorem cd306 : Cd m306 := ⟨tw_in 2206 cw306 rfl, by decide +kernel⟩
set_option maxRecDepth 20000 in
theorem cw307 : lw_tbl[2210]? = some (Cond.code (mi_y m307) (mi_cc m307) (mi_mx m307) (mi_rt m307)) := rfl
theorem cd307 : Cd m307 := ⟨tw_in 2210 cw307 rfl, by decide +kernel⟩
set_option maxRecDepth 20000 in
theorem cw308 : lw_tbl[2214]? = some (Cond.code (mi_y m308) (mi_cc m308) (mi_mx m308) (mi_rt m308)) := rfl
theorem cd308 : Cd m308 := ⟨tw_in 2214 cw308 rfl, by decide +kernel⟩
set_option maxRecDepth 20000 in
theorem cw309 : lw_tbl[2218]? = some (Cond.code (mi_y m309) (mi_cc m309) (mi_mx m309) (mi_rt m309)) := rfl
theorem cd309 : Cd m309 := ⟨tw_in 2218 cw309 rfl, by decide +kernel⟩
set_option maxRecDepth 20000 in
theorem cw310 : lw_tbl[2222]? = some (Cond.code (mi_y m310) (mi_cc m310) (mi_mx m310) (mi_rt m310)) := rfl
theorem cd310 : Cd m310 := ⟨tw_in 2222 cw310 rfl, by decide +kernel⟩
set_option maxRecDepth 20000 in
theorem cw311 : lw_tbl[2226]? = some (Cond.code (mi_y m311) (mi_cc m311) (mi_mx m311) (mi_rt m311)) := rfl
theorem cd311 : Cd m311 := ⟨tw_in 2226 cw311 rfl, by decide +kernel⟩
set_option maxRecDepth 20000 in
theorem cw312 : lw_tbl[2230]? = some (Cond.code (mi_y m312) (mi_cc m312) (mi_mx m312) (mi_rt m312)) := rfl
theorem cd312 : Cd m312 := ⟨tw_in 2230 cw312 rfl, by decide +kernel⟩
set_option maxRecDepth 20000 in
theorem cw313 : lw_tbl[2234]? = some (Cond.code (mi_y m313) (mi_cc m313) (mi_mx m313) (mi_rt m313)) := rfl
theorem cd313 : Cd m313 := ⟨tw_in 2234 cw313 rfl, by decide +kernel⟩
set_option maxRecDepth 20000 in
theorem cw314 : lw_tbl[2238]? = some (Cond.code (mi_y m314) (mi_cc m314) (mi_mx m314) (mi_rt m314)) := rfl
theorem cd314 : Cd m314 := ⟨tw_in 2238 cw314 rfl, by decide +kernel⟩
set_option maxRecDepth 20000 in
theorem cw315 : lw_tbl[2242]? = some (Cond.code (mi_y m315) (mi_cc m315) (mi_mx m315) (mi_rt m315)) := rfl
theorem cd315 : Cd m315 := ⟨tw_in 2242 cw315 rfl, by decide +kernel⟩
set_option maxRecDepth 20000 in
theorem cw316 : lw_tbl[2246]? = some (Cond.code (mi_y m316) (mi_cc m316) (mi_mx m316) (mi_rt m316)) := rfl
theorem cd316 : Cd m316 := ⟨tw_in 2246 cw316 rfl, by decide +kernel⟩
set_option maxRecDepth 20000 in
theorem cw317 : lw_tbl[2250]? = some (Cond.code (mi_y m317) (mi_cc m317) (mi_mx m317) (mi_rt m317)) := rfl
theorem cd317 : Cd m317 := ⟨tw_in 2250 cw317 rfl, by decide +kernel⟩
set_option maxRecDepth 20000 in
theorem cw318 : lw_tbl[2254]? = some (Cond.code (mi_y m318) (mi_cc m318) (mi_mx m318) (mi_rt m318)) := rfl
theorem cd318 : Cd m318 := ⟨tw_in 2254 cw318 rfl, by decide +kernel⟩
set_option maxRecDepth 20000 in
theorem cw319 : lw_tbl[2258]? = some (Cond.code (mi_y m319) (mi_cc m319) (mi_mx m319) (mi_rt m319)) := rfl
theorem cd319 : Cd m319 := ⟨tw_in 2258 cw319 rfl, by decide +kernel⟩
set_option maxRecDepth 20000 in
theorem cw320 : lw_tbl[2262]? = some (Cond.code (mi_y m320) (mi_cc m320) (mi_mx m320) (mi_rt m320)) := rfl
theorem cd320 : Cd m320 := ⟨tw_in 2262 cw320 rfl, by decide +kernel⟩
set_option maxRecDepth 20000 in
theorem cw321 : lw_tbl[2266]? = some (Cond.code (mi_y m321) (mi_cc m321) (mi_mx m321) (mi_rt m321)) := rfl
theorem cd321 : Cd m321 := ⟨tw_in 2266 cw321 rfl, by decide +kernel⟩
set_option maxRecDepth 20000 in
theorem cw322 : lw_tbl[2270]? = some (Cond.code (mi_y m322) (mi_cc m322) (mi_mx m322) (mi_rt m322)) := rfl
theorem cd322 : Cd m322 := ⟨tw_in 2270 cw322 rfl, by decide +kernel⟩
set_option maxRecDepth 20000 in
theorem cw323 : lw_tbl[2274]? = some (Cond.code (mi_y m323) (mi_cc m323) (mi_mx m323) (mi_rt m323)) := rfl
theorem cd323 : Cd m323 := ⟨tw_in 2274 cw323 rfl, by decide +kernel⟩
