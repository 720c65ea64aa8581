theorem kw672 : Cond.code yX11_wind cX11_wind 7 (some .int) ∈ wT := wT_in (tb_3 72 (by decide +kernel)) (by decide +kernel)
theorem kw673 : Cond.methodLink RL 7 yX11_wind ∈ wT := wT_in (tb_3 69 (by decide +kernel)) (by decide +kernel)
theorem kw674 : Cond.instanceMethod yX11_wind ∈ wT := wT_in (tb_3 70 (by decide +kernel)) (by decide +kernel)
theorem kw675 : Cond.selects RX11 yX11_wind yX11_wind ∈ wT := wT_in (tb_3 71 (by decide +kernel)) (by decide +kernel)
theorem kw676 : Cond.codeWith yL_wind cL_wind 9 (some .int) [((0 : Nat), (18 : Nat), (21 : Nat), (13 : Nat))] ∈ wT := wT_in (tb_3 67 (by decide +kernel)) (by decide +kernel)
theorem kw677 : Cond.methodLink RL 101 yL_wind ∈ wT := wT_in (tb_3 65 (by decide +kernel)) (by decide +kernel)
theorem kw678 : Cond.static yL_wind ∈ wT := wT_in (tb_3 66 (by decide +kernel)) (by decide +kernel)
theorem kw679 : Cond.initialized RL ∈ wT := wT_in (tb_1 0 (by decide +kernel)) (by decide +kernel)
theorem kw680 : Cond.code yX12_wind cX12_wind 8 (some .int) ∈ wT := wT_in (tb_8 9 (by decide +kernel)) (by decide +kernel)
theorem kw681 : Cond.methodLink RL 106 yX12_wind ∈ wT := wT_in (tb_8 6 (by decide +kernel)) (by decide +kernel)
theorem kw682 : Cond.instanceMethod yX12_wind ∈ wT := wT_in (tb_8 7 (by decide +kernel)) (by decide +kernel)
theorem kw683 : Cond.selects RX12 yX12_wind yX12_wind ∈ wT := wT_in (tb_8 8 (by decide +kernel)) (by decide +kernel)
theorem kw684 : Cond.code yX12_thrown cX12_thrown 1 (some .int) ∈ wT := wT_in (tb_8 5 (by decide +kernel)) (by decide +kernel)
theorem kw685 : Cond.methodLink RL 107 yX12_thrown ∈ wT := wT_in (tb_8 2 (by decide +kernel)) (by decide +kernel)
theorem kw686 : Cond.instanceMethod yX12_thrown ∈ wT := wT_in (tb_8 3 (by decide +kernel)) (by decide +kernel)
theorem kw687 : Cond.selects RX12 yX12_thrown yX12_thrown ∈ wT := wT_in (tb_8 4 (by decide +kernel)) (by decide +kernel)
theorem kw688 : Cond.classLink RL 13 "java/lang/IllegalArgumentException" ∈ wT := wT_in (tb_3 68 (by decide +kernel)) (by decide +kernel)
theorem nw689 : Cond.castable "java/lang/IllegalArgumentException" "java/lang/IllegalArgumentException" ∈ lw_tbl := tb_3 88 (by decide +kernel)
theorem kw690 : Cond.code yX11_forecast cX11_forecast 7 (some .int) ∈ wT := wT_in (tb_3 172 (by decide +kernel)) (by decide +kernel)
theorem kw691 : Cond.methodLink RL 15 yX11_forecast ∈ wT := wT_in (tb_3 169 (by decide +kernel)) (by decide +kernel)
theorem kw692 : Cond.instanceMethod yX11_forecast ∈ wT := wT_in (tb_3 170 (by decide +kernel)) (by decide +kernel)
theorem kw693 : Cond.selects RX11 yX11_forecast yX11_forecast ∈ wT := wT_in (tb_3 171 (by decide +kernel)) (by decide +kernel)
theorem kw694 : Cond.codeWith yL_forecast cL_forecast 9 (some .int) [((0 : Nat), (18 : Nat), (21 : Nat), (13 : Nat))] ∈ wT := wT_in (tb_3 168 (by decide +kernel)) (by decide +kernel)
theorem kw695 : Cond.methodLink RL 111 yL_forecast ∈ wT := wT_in (tb_3 166 (by decide +kernel)) (by decide +kernel)
theorem kw696 : Cond.static yL_forecast ∈ wT := wT_in (tb_3 167 (by decide +kernel)) (by decide +kernel)
theorem kw697 : Cond.code yX12_forecast cX12_forecast 7 (some .int) ∈ wT := wT_in (tb_8 29 (by decide +kernel)) (by decide +kernel)
theorem kw698 : Cond.methodLink RL 113 yX12_forecast ∈ wT := wT_in (tb_8 26 (by decide +kernel)) (by decide +kernel)
theorem kw699 : Cond.instanceMethod yX12_forecast ∈ wT := wT_in (tb_8 27 (by decide +kernel)) (by decide +kernel)
theorem kw700 : Cond.selects RX12 yX12_forecast yX12_forecast ∈ wT := wT_in (tb_8 28 (by decide +kernel)) (by decide +kernel)
theorem kw701 : Cond.code yX11_told cX11_told 5 (some .int) ∈ wT := wT_in (tb_3 210 (by decide +kernel)) (by decide +kernel)
theorem kw702 : Cond.methodLink RL 18 yX11_told ∈ wT := wT_in (tb_3 207 (by decide +kernel)) (by decide +kernel)
theorem kw703 : Cond.instanceMethod yX11_told ∈ wT := wT_in (tb_3 208 (by decide +kernel)) (by decide +kernel)
theorem kw704 : Cond.selects RX11 yX11_told yX11_told ∈ wT := wT_in (tb_3 209 (by decide +kernel)) (by decide +kernel)
theorem kw705 : Cond.codeWith yL_told cL_told 7 (some .int) [((0 : Nat), (14 : Nat), (17 : Nat), (13 : Nat))] ∈ wT := wT_in (tb_3 206 (by decide +kernel)) (by decide +kernel)
theorem kw706 : Cond.methodLink RL 114 yL_told ∈ wT := wT_in (tb_3 204 (by decide +kernel)) (by decide +kernel)
theorem kw707 : Cond.static yL_told ∈ wT := wT_in (tb_3 205 (by decide +kernel)) (by decide +kernel)
theorem kw708 : Cond.code yX12_told cX12_told 6 (some .int) ∈ wT := wT_in (tb_8 33 (by decide +kernel)) (by decide +kernel)
theorem kw709 : Cond.methodLink RL 117 yX12_told ∈ wT := wT_in (tb_8 30 (by decide +kernel)) (by decide +kernel)
theorem kw710 : Cond.instanceMethod yX12_told ∈ wT := wT_in (tb_8 31 (by decide +kernel)) (by decide +kernel)
theorem kw711 : Cond.selects RX12 yX12_told yX12_told ∈ wT := wT_in (tb_8 32 (by decide +kernel)) (by decide +kernel)
theorem kw712 : Cond.code yX11_found cX11_found 5 (some .int) ∈ wT := wT_in (tb_3 221 (by decide +kernel)) (by decide +kernel)
theorem kw713 : Cond.methodLink RL 22 yX11_found ∈ wT := wT_in (tb_3 218 (by decide +kernel)) (by decide +kernel)
theorem kw714 : Cond.instanceMethod yX11_found ∈ wT := wT_in (tb_3 219 (by decide +kernel)) (by decide +kernel)
theorem kw715 : Cond.selects RX11 yX11_found yX11_found ∈ wT := wT_in (tb_3 220 (by decide +kernel)) (by decide +kernel)
theorem kw716 : Cond.codeWith yL_found cL_found 6 (some .int) [((0 : Nat), (12 : Nat), (15 : Nat), (13 : Nat))] ∈ wT := wT_in (tb_3 217 (by decide +kernel)) (by decide +kernel)
theorem kw717 : Cond.methodLink RL 118 yL_found ∈ wT := wT_in (tb_3 215 (by decide +kernel)) (by decide +kernel)
theorem kw718 : Cond.static yL_found ∈ wT := wT_in (tb_3 216 (by decide +kernel)) (by decide +kernel)
theorem kw719 : Cond.code yX12_found cX12_found 5 (some .int) ∈ wT := wT_in (tb_8 44 (by decide +kernel)) (by decide +kernel)
theorem kw720 : Cond.methodLink RL 121 yX12_found ∈ wT := wT_in (tb_8 41 (by decide +kernel)) (by decide +kernel)
theorem kw721 : Cond.instanceMethod yX12_found ∈ wT := wT_in (tb_8 42 (by decide +kernel)) (by decide +kernel)
theorem kw722 : Cond.selects RX12 yX12_found yX12_found ∈ wT := wT_in (tb_8 43 (by decide +kernel)) (by decide +kernel)
theorem kw723 : Cond.code yX11_cloud cX11_cloud 4 (some .int) ∈ wT := wT_in (tb_3 233 (by decide +kernel)) (by decide +kernel)
theorem kw724 : Cond.methodLink RL 26 yX11_cloud ∈ wT := wT_in (tb_3 230 (by decide +kernel)) (by decide +kernel)
theorem kw725 : Cond.instanceMethod yX11_cloud ∈ wT := wT_in (tb_3 231 (by decide +kernel)) (by decide +kernel)
theorem kw726 : Cond.selects RX11 yX11_cloud yX11_cloud ∈ wT := wT_in (tb_3 232 (by decide +kernel)) (by decide +kernel)
theorem kw727 : Cond.codeWith yL_cloud cL_cloud 6 (some .int) [((0 : Nat), (12 : Nat), (15 : Nat), (13 : Nat))] ∈ wT := wT_in (tb_3 229 (by decide +kernel)) (by decide +kernel)
theorem kw728 : Cond.methodLink RL 122 yL_cloud ∈ wT := wT_in (tb_3 227 (by decide +kernel)) (by decide +kernel)
theorem kw729 : Cond.static yL_cloud ∈ wT := wT_in (tb_3 228 (by decide +kernel)) (by decide +kernel)
theorem kw730 : Cond.code yX12_cloud cX12_cloud 5 (some .int) ∈ wT := wT_in (tb_8 48 (by decide +kernel)) (by decide +kernel)
theorem kw731 : Cond.methodLink RL 125 yX12_cloud ∈ wT := wT_in (tb_8 45 (by decide +kernel)) (by decide +kernel)
theorem kw732 : Cond.instanceMethod yX12_cloud ∈ wT := wT_in (tb_8 46 (by decide +kernel)) (by decide +kernel)
theorem kw733 : Cond.selects RX12 yX12_cloud yX12_cloud ∈ wT := wT_in (tb_8 47 (by decide +kernel)) (by decide +kernel)
theorem kw734 : Cond.code yX11_balloon cX11_balloon 3 (some .int) ∈ wT := wT_in (tb_4 5 (by decide +kernel)) (by decide +kernel)
theorem kw735 : Cond.methodLink RL 30 yX11_balloon ∈ wT := wT_in (tb_4 2 (by decide +kernel)) (by decide +kernel)
theorem kw736 : Cond.instanceMethod yX11_balloon ∈ wT := wT_in (tb_4 3 (by decide +kernel)) (by decide +kernel)
theorem kw737 : Cond.selects RX11 yX11_balloon yX11_balloon ∈ wT := wT_in (tb_4 4 (by decide +kernel)) (by decide +kernel)
theorem kw738 : Cond.codeWith yL_balloon cL_balloon 5 (some .int) [((0 : Nat), (10 : Nat), (13 : Nat), (13 : Nat)), ((0 : Nat), (10 : Nat), (17 : Nat), (34 : Nat))] ∈ wT := wT_in (tb_4 0 (by decide +kernel)) (by decide +kernel)
theorem kw739 : Cond.methodLink RL 126 yL_balloon ∈ wT := wT_in (tb_3 238 (by decide +kernel)) (by decide +kernel)
theorem kw740 : Cond.static yL_balloon ∈ wT := wT_in (tb_3 239 (by decide +kernel)) (by decide +kernel)
theorem kw741 : Cond.code yX12_balloon cX12_balloon 3 (some .int) ∈ wT := wT_in (tb_8 52 (by decide +kernel)) (by decide +kernel)
theorem kw742 : Cond.methodLink RL 129 yX12_balloon ∈ wT := wT_in (tb_8 49 (by decide +kernel)) (by decide +kernel)
theorem kw743 : Cond.instanceMethod yX12_balloon ∈ wT := wT_in (tb_8 50 (by decide +kernel)) (by decide +kernel)
theorem kw744 : Cond.selects RX12 yX12_balloon yX12_balloon ∈ wT := wT_in (tb_8 51 (by decide +kernel)) (by decide +kernel)
theorem kw745 : Cond.code yX11_cylinder cX11_cylinder 4 (some .int) ∈ wT := wT_in (tb_4 120 (by decide +kernel)) (by decide +kernel)
theorem kw746 : Cond.methodLink RL 36 yX11_cylinder ∈ wT := wT_in (tb_4 117 (by decide +kernel)) (by decide +kernel)
theorem kw747 : Cond.instanceMethod yX11_cylinder ∈ wT := wT_in (tb_4 118 (by decide +kernel)) (by decide +kernel)
theorem kw748 : Cond.selects RX11 yX11_cylinder yX11_cylinder ∈ wT := wT_in (tb_4 119 (by decide +kernel)) (by decide +kernel)
theorem kw749 : Cond.codeWith yL_cylinder cL_cylinder 6 (some .int) [((0 : Nat), (12 : Nat), (15 : Nat), (13 : Nat))] ∈ wT := wT_in (tb_4 116 (by decide +kernel)) (by decide +kernel)
theorem kw750 : Cond.methodLink RL 130 yL_cylinder ∈ wT := wT_in (tb_4 114 (by decide +kernel)) (by decide +kernel)
theorem kw751 : Cond.static yL_cylinder ∈ wT := wT_in (tb_4 115 (by decide +kernel)) (by decide +kernel)
theorem kw752 : Cond.code yX12_cylinder cX12_cylinder 4 (some .int) ∈ wT := wT_in (tb_8 56 (by decide +kernel)) (by decide +kernel)
theorem kw753 : Cond.methodLink RL 132 yX12_cylinder ∈ wT := wT_in (tb_8 53 (by decide +kernel)) (by decide +kernel)
theorem kw754 : Cond.instanceMethod yX12_cylinder ∈ wT := wT_in (tb_8 54 (by decide +kernel)) (by decide +kernel)
theorem kw755 : Cond.selects RX12 yX12_cylinder yX12_cylinder ∈ wT := wT_in (tb_8 55 (by decide +kernel)) (by decide +kernel)
theorem kw756 : Cond.code yX11_fillable cX11_fillable 4 (some .int) ∈ wT := wT_in (tb_4 131 (by decide +kernel)) (by decide +kernel)
theorem kw757 : Cond.methodLink RL 39 yX11_fillable ∈ wT := wT_in (tb_4 128 (by decide +kernel)) (by decide +kernel)
theorem kw758 : Cond.instanceMethod yX11_fillable ∈ wT := wT_in (tb_4 129 (by decide +kernel)) (by decide +kernel)
theorem kw759 : Cond.selects RX11 yX11_fillable yX11_fillable ∈ wT := wT_in (tb_4 130 (by decide +kernel)) (by decide +kernel)
theorem kw760 : Cond.codeWith yL_fillable cL_fillable 6 (some .int) [((0 : Nat), (12 : Nat), (15 : Nat), (13 : Nat))] ∈ wT := wT_in (tb_4 127 (by decide +kernel)) (by decide +kernel)
theorem kw761 : Cond.methodLink RL 133 yL_fillable ∈ wT := wT_in (tb_4 125 (by decide +kernel)) (by decide +kernel)
theorem kw762 : Cond.static yL_fillable ∈ wT := wT_in (tb_4 126 (by decide +kernel)) (by decide +kernel)
theorem kw763 : Cond.code yX12_fillable cX12_fillable 4 (some .int) ∈ wT := wT_in (tb_8 60 (by decide +kernel)) (by decide +kernel)
theorem kw764 : Cond.methodLink RL 135 yX12_fillable ∈ wT := wT_in (tb_8 57 (by decide +kernel)) (by decide +kernel)
theorem kw765 : Cond.instanceMethod yX12_fillable ∈ wT := wT_in (tb_8 58 (by decide +kernel)) (by decide +kernel)
theorem kw766 : Cond.selects RX12 yX12_fillable yX12_fillable ∈ wT := wT_in (tb_8 59 (by decide +kernel)) (by decide +kernel)
theorem kw767 : Cond.code yX11_fill cX11_fill 5 (some .int) ∈ wT := wT_in (tb_4 154 (by decide +kernel)) (by decide +kernel)
theorem kw768 : Cond.methodLink RL 42 yX11_fill ∈ wT := wT_in (tb_4 151 (by decide +kernel)) (by decide +kernel)
theorem kw769 : Cond.instanceMethod yX11_fill ∈ wT := wT_in (tb_4 152 (by decide +kernel)) (by decide +kernel)
theorem kw770 : Cond.selects RX11 yX11_fill yX11_fill ∈ wT := wT_in (tb_4 153 (by decide +kernel)) (by decide +kernel)
theorem kw771 : Cond.classLink RL 45 "java/lang/IndexOutOfBoundsException" ∈ wT := wT_in (tb_4 150 (by decide +kernel)) (by decide +kernel)
theorem nw772 : Cond.castable "java/lang/IndexOutOfBoundsException" "java/lang/IndexOutOfBoundsException" ∈ lw_tbl := tb_4 161 (by decide +kernel)
theorem kw773 : Cond.codeWith yL_fill cL_fill 6 (some .int) [((0 : Nat), (12 : Nat), (15 : Nat), (45 : Nat)), ((0 : Nat), (12 : Nat), (19 : Nat), (13 : Nat))] ∈ wT := wT_in (tb_4 149 (by decide +kernel)) (by decide +kernel)
theorem kw774 : Cond.methodLink RL 136 yL_fill ∈ wT := wT_in (tb_4 147 (by decide +kernel)) (by decide +kernel)
theorem kw775 : Cond.static yL_fill ∈ wT := wT_in (tb_4 148 (by decide +kernel)) (by decide +kernel)
theorem kw776 : Cond.code yX12_fill cX12_fill 5 (some .int) ∈ wT := wT_in (tb_8 74 (by decide +kernel)) (by decide +kernel)
theorem kw777 : Cond.methodLink RL 138 yX12_fill ∈ wT := wT_in (tb_8 71 (by decide +kernel)) (by decide +kernel)
theorem kw778 : Cond.instanceMethod yX12_fill ∈ wT := wT_in (tb_8 72 (by decide +kernel)) (by decide +kernel)
theorem kw779 : Cond.selects RX12 yX12_fill yX12_fill ∈ wT := wT_in (tb_8 73 (by decide +kernel)) (by decide +kernel)
theorem kw780 : Cond.code yX11_set cX11_set 7 (some .int) ∈ wT := wT_in (tb_4 186 (by decide +kernel)) (by decide +kernel)
theorem kw781 : Cond.methodLink RL 47 yX11_set ∈ wT := wT_in (tb_4 183 (by decide +kernel)) (by decide +kernel)
theorem kw782 : Cond.instanceMethod yX11_set ∈ wT := wT_in (tb_4 184 (by decide +kernel)) (by decide +kernel)
theorem kw783 : Cond.selects RX11 yX11_set yX11_set ∈ wT := wT_in (tb_4 185 (by decide +kernel)) (by decide +kernel)
theorem kw784 : Cond.codeWith yL_set cL_set 6 (some .int) [((0 : Nat), (12 : Nat), (15 : Nat), (45 : Nat)), ((0 : Nat), (12 : Nat), (19 : Nat), (13 : Nat))] ∈ wT := wT_in (tb_4 182 (by decide +kernel)) (by decide +kernel)
theorem kw785 : Cond.methodLink RL 139 yL_set ∈ wT := wT_in (tb_4 180 (by decide +kernel)) (by decide +kernel)
theorem kw786 : Cond.static yL_set ∈ wT := wT_in (tb_4 181 (by decide +kernel)) (by decide +kernel)
theorem kw787 : Cond.code yX12_set cX12_set 5 (some .int) ∈ wT := wT_in (tb_8 82 (by decide +kernel)) (by decide +kernel)
theorem kw788 : Cond.methodLink RL 141 yX12_set ∈ wT := wT_in (tb_8 79 (by decide +kernel)) (by decide +kernel)
theorem kw789 : Cond.instanceMethod yX12_set ∈ wT := wT_in (tb_8 80 (by decide +kernel)) (by decide +kernel)
theorem kw790 : Cond.selects RX12 yX12_set yX12_set ∈ wT := wT_in (tb_8 81 (by decide +kernel)) (by decide +kernel)
theorem kw791 : Cond.code yX11_inspect cX11_inspect 4 (some .int) ∈ wT := wT_in (tb_4 193 (by decide +kernel)) (by decide +kernel)
theorem kw792 : Cond.methodLink RL 50 yX11_inspect ∈ wT := wT_in (tb_4 190 (by decide +kernel)) (by decide +kernel)
theorem kw793 : Cond.instanceMethod yX11_inspect ∈ wT := wT_in (tb_4 191 (by decide +kernel)) (by decide +kernel)
theorem kw794 : Cond.selects RX11 yX11_inspect yX11_inspect ∈ wT := wT_in (tb_4 192 (by decide +kernel)) (by decide +kernel)
theorem kw795 : Cond.codeWith yL_inspect cL_inspect 4 (some .int) [((0 : Nat), (9 : Nat), (12 : Nat), (45 : Nat))] ∈ wT := wT_in (tb_4 189 (by decide +kernel)) (by decide +kernel)
theorem kw796 : Cond.methodLink RL 142 yL_inspect ∈ wT := wT_in (tb_4 187 (by decide +kernel)) (by decide +kernel)
theorem kw797 : Cond.static yL_inspect ∈ wT := wT_in (tb_4 188 (by decide +kernel)) (by decide +kernel)
theorem kw798 : Cond.code yX12_inspect cX12_inspect 3 (some .int) ∈ wT := wT_in (tb_8 86 (by decide +kernel)) (by decide +kernel)
theorem kw799 : Cond.methodLink RL 145 yX12_inspect ∈ wT := wT_in (tb_8 83 (by decide +kernel)) (by decide +kernel)
theorem kw800 : Cond.instanceMethod yX12_inspect ∈ wT := wT_in (tb_8 84 (by decide +kernel)) (by decide +kernel)
theorem kw801 : Cond.selects RX12 yX12_inspect yX12_inspect ∈ wT := wT_in (tb_8 85 (by decide +kernel)) (by decide +kernel)
theorem kw802 : Cond.code yX11_start cX11_start 5 (some .int) ∈ wT := wT_in (tb_4 200 (by decide +kernel)) (by decide +kernel)
theorem kw803 : Cond.methodLink RL 54 yX11_start ∈ wT := wT_in (tb_4 197 (by decide +kernel)) (by decide +kernel)
theorem kw804 : Cond.instanceMethod yX11_start ∈ wT := wT_in (tb_4 198 (by decide +kernel)) (by decide +kernel)
theorem kw805 : Cond.selects RX11 yX11_start yX11_start ∈ wT := wT_in (tb_4 199 (by decide +kernel)) (by decide +kernel)
theorem kw806 : Cond.codeWith yL_start cL_start 6 (some .int) [((0 : Nat), (12 : Nat), (15 : Nat), (45 : Nat)), ((0 : Nat), (12 : Nat), (19 : Nat), (13 : Nat))] ∈ wT := wT_in (tb_4 196 (by decide +kernel)) (by decide +kernel)
theorem kw807 : Cond.methodLink RL 146 yL_start ∈ wT := wT_in (tb_4 194 (by decide +kernel)) (by decide +kernel)
theorem kw808 : Cond.static yL_start ∈ wT := wT_in (tb_4 195 (by decide +kernel)) (by decide +kernel)
theorem kw809 : Cond.code yX12_start cX12_start 4 (some .int) ∈ wT := wT_in (tb_8 90 (by decide +kernel)) (by decide +kernel)
theorem kw810 : Cond.methodLink RL 148 yX12_start ∈ wT := wT_in (tb_8 87 (by decide +kernel)) (by decide +kernel)
theorem kw811 : Cond.instanceMethod yX12_start ∈ wT := wT_in (tb_8 88 (by decide +kernel)) (by decide +kernel)
theorem kw812 : Cond.selects RX12 yX12_start yX12_start ∈ wT := wT_in (tb_8 89 (by decide +kernel)) (by decide +kernel)
theorem kw813 : Cond.code yX11_home cX11_home 3 (some .int) ∈ wT := wT_in (tb_4 237 (by decide +kernel)) (by decide +kernel)
theorem kw814 : Cond.methodLink RL 57 yX11_home ∈ wT := wT_in (tb_4 234 (by decide +kernel)) (by decide +kernel)
theorem kw815 : Cond.instanceMethod yX11_home ∈ wT := wT_in (tb_4 235 (by decide +kernel)) (by decide +kernel)
theorem kw816 : Cond.selects RX11 yX11_home yX11_home ∈ wT := wT_in (tb_4 236 (by decide +kernel)) (by decide +kernel)
theorem kw817 : Cond.codeWith yL_home cL_home 4 (some .int) [((0 : Nat), (9 : Nat), (12 : Nat), (45 : Nat))] ∈ wT := wT_in (tb_4 233 (by decide +kernel)) (by decide +kernel)
theorem kw818 : Cond.methodLink RL 149 yL_home ∈ wT := wT_in (tb_4 231 (by decide +kernel)) (by decide +kernel)
theorem kw819 : Cond.static yL_home ∈ wT := wT_in (tb_4 232 (by decide +kernel)) (by decide +kernel)
theorem kw820 : Cond.code yX12_home cX12_home 2 (some .int) ∈ wT := wT_in (tb_8 118 (by decide +kernel)) (by decide +kernel)
theorem kw821 : Cond.methodLink RL 151 yX12_home ∈ wT := wT_in (tb_8 115 (by decide +kernel)) (by decide +kernel)
theorem kw822 : Cond.instanceMethod yX12_home ∈ wT := wT_in (tb_8 116 (by decide +kernel)) (by decide +kernel)
theorem kw823 : Cond.selects RX12 yX12_home yX12_home ∈ wT := wT_in (tb_8 117 (by decide +kernel)) (by decide +kernel)
theorem kw824 : Cond.code yX11_feed cX11_feed 6 (some .int) ∈ wT := wT_in (tb_2 141 (by decide +kernel)) (by decide +kernel)
theorem kw825 : Cond.methodLink RL 152 yX11_feed ∈ wT := wT_in (tb_2 138 (by decide +kernel)) (by decide +kernel)
theorem kw826 : Cond.instanceMethod yX11_feed ∈ wT := wT_in (tb_2 139 (by decide +kernel)) (by decide +kernel)
theorem kw827 : Cond.selects RX11 yX11_feed yX11_feed ∈ wT := wT_in (tb_2 140 (by decide +kernel)) (by decide +kernel)
theorem kw828 : Cond.code yX12_feed cX12_feed 9 (some .int) ∈ wT := wT_in (tb_8 122 (by decide +kernel)) (by decide +kernel)
theorem kw829 : Cond.methodLink RL 155 yX12_feed ∈ wT := wT_in (tb_8 119 (by decide +kernel)) (by decide +kernel)
theorem kw830 : Cond.instanceMethod yX12_feed ∈ wT := wT_in (tb_8 120 (by decide +kernel)) (by decide +kernel)
theorem kw831 : Cond.selects RX12 yX12_feed yX12_feed ∈ wT := wT_in (tb_8 121 (by decide +kernel)) (by decide +kernel)
theorem kw832 : Cond.code yX11_orders cX11_orders 5 (some .int) ∈ wT := wT_in (tb_5 9 (by decide +kernel)) (by decide +kernel)
theorem kw833 : Cond.methodLink RL 60 yX11_orders ∈ wT := wT_in (tb_5 6 (by decide +kernel)) (by decide +kernel)
theorem kw834 : Cond.instanceMethod yX11_orders ∈ wT := wT_in (tb_5 7 (by decide +kernel)) (by decide +kernel)
theorem kw835 : Cond.selects RX11 yX11_orders yX11_orders ∈ wT := wT_in (tb_5 8 (by decide +kernel)) (by decide +kernel)
theorem kw836 : Cond.codeWith yL_orders cL_orders 5 (some .int) [((0 : Nat), (10 : Nat), (13 : Nat), (45 : Nat)), ((0 : Nat), (10 : Nat), (17 : Nat), (13 : Nat))] ∈ wT := wT_in (tb_5 5 (by decide +kernel)) (by decide +kernel)
theorem kw837 : Cond.methodLink RL 156 yL_orders ∈ wT := wT_in (tb_5 3 (by decide +kernel)) (by decide +kernel)
theorem kw838 : Cond.static yL_orders ∈ wT := wT_in (tb_5 4 (by decide +kernel)) (by decide +kernel)
theorem kw839 : Cond.code yX12_orders cX12_orders 5 (some .int) ∈ wT := wT_in (tb_8 126 (by decide +kernel)) (by decide +kernel)
theorem kw840 : Cond.methodLink RL 158 yX12_orders ∈ wT := wT_in (tb_8 123 (by decide +kernel)) (by decide +kernel)
theorem kw841 : Cond.instanceMethod yX12_orders ∈ wT := wT_in (tb_8 124 (by decide +kernel)) (by decide +kernel)
theorem kw842 : Cond.selects RX12 yX12_orders yX12_orders ∈ wT := wT_in (tb_8 125 (by decide +kernel)) (by decide +kernel)
theorem kw843 : Cond.code yX11_fault cX11_fault 1 (some .int) ∈ wT := wT_in (tb_2 149 (by decide +kernel)) (by decide +kernel)
theorem kw844 : Cond.methodLink RL 159 yX11_fault ∈ wT := wT_in (tb_2 146 (by decide +kernel)) (by decide +kernel)
theorem kw845 : Cond.instanceMethod yX11_fault ∈ wT := wT_in (tb_2 147 (by decide +kernel)) (by decide +kernel)
theorem kw846 : Cond.selects RX11 yX11_fault yX11_fault ∈ wT := wT_in (tb_2 148 (by decide +kernel)) (by decide +kernel)
theorem kw847 : Cond.code yX12_fault cX12_fault 1 (some .int) ∈ wT := wT_in (tb_8 234 (by decide +kernel)) (by decide +kernel)
theorem kw848 : Cond.methodLink RL 162 yX12_fault ∈ wT := wT_in (tb_8 231 (by decide +kernel)) (by decide +kernel)
theorem kw849 : Cond.instanceMethod yX12_fault ∈ wT := wT_in (tb_8 232 (by decide +kernel)) (by decide +kernel)
theorem kw850 : Cond.selects RX12 yX12_fault yX12_fault ∈ wT := wT_in (tb_8 233 (by decide +kernel)) (by decide +kernel)
theorem kw851 : Cond.code yX11_act cX11_act 5 (some .int) ∈ wT := wT_in (tb_5 154 (by decide +kernel)) (by decide +kernel)
theorem kw852 : Cond.methodLink RL 63 yX11_act ∈ wT := wT_in (tb_5 151 (by decide +kernel)) (by decide +kernel)
theorem kw853 : Cond.instanceMethod yX11_act ∈ wT := wT_in (tb_5 152 (by decide +kernel)) (by decide +kernel)
theorem kw854 : Cond.selects RX11 yX11_act yX11_act ∈ wT := wT_in (tb_5 153 (by decide +kernel)) (by decide +kernel)
theorem kw855 : Cond.codeWith yL_act cL_act 6 (some .int) [((0 : Nat), (12 : Nat), (15 : Nat), (45 : Nat)), ((0 : Nat), (12 : Nat), (19 : Nat), (13 : Nat))] ∈ wT := wT_in (tb_5 150 (by decide +kernel)) (by decide +kernel)
theorem kw856 : Cond.methodLink RL 163 yL_act ∈ wT := wT_in (tb_5 148 (by decide +kernel)) (by decide +kernel)
theorem kw857 : Cond.static yL_act ∈ wT := wT_in (tb_5 149 (by decide +kernel)) (by decide +kernel)
theorem kw858 : Cond.code yX12_act cX12_act 4 (some .int) ∈ wT := wT_in (tb_8 238 (by decide +kernel)) (by decide +kernel)
theorem kw859 : Cond.methodLink RL 165 yX12_act ∈ wT := wT_in (tb_8 235 (by decide +kernel)) (by decide +kernel)
theorem kw860 : Cond.instanceMethod yX12_act ∈ wT := wT_in (tb_8 236 (by decide +kernel)) (by decide +kernel)
theorem kw861 : Cond.selects RX12 yX12_act yX12_act ∈ wT := wT_in (tb_8 237 (by decide +kernel)) (by decide +kernel)
theorem kw862 : Cond.code yX11_hours cX11_hours 4 (some .int) ∈ wT := wT_in (tb_5 161 (by decide +kernel)) (by decide +kernel)
theorem kw863 : Cond.methodLink RL 66 yX11_hours ∈ wT := wT_in (tb_5 158 (by decide +kernel)) (by decide +kernel)
theorem kw864 : Cond.instanceMethod yX11_hours ∈ wT := wT_in (tb_5 159 (by decide +kernel)) (by decide +kernel)
theorem kw865 : Cond.selects RX11 yX11_hours yX11_hours ∈ wT := wT_in (tb_5 160 (by decide +kernel)) (by decide +kernel)
theorem kw866 : Cond.codeWith yL_hours cL_hours 4 (some .int) [((0 : Nat), (9 : Nat), (12 : Nat), (13 : Nat)), ((0 : Nat), (9 : Nat), (15 : Nat), (34 : Nat))] ∈ wT := wT_in (tb_5 157 (by decide +kernel)) (by decide +kernel)
theorem kw867 : Cond.methodLink RL 166 yL_hours ∈ wT := wT_in (tb_5 155 (by decide +kernel)) (by decide +kernel)
theorem kw868 : Cond.static yL_hours ∈ wT := wT_in (tb_5 156 (by decide +kernel)) (by decide +kernel)
theorem kw869 : Cond.code yX12_hours cX12_hours 4 (some .int) ∈ wT := wT_in (tb_9 2 (by decide +kernel)) (by decide +kernel)
theorem kw870 : Cond.methodLink RL 168 yX12_hours ∈ wT := wT_in (tb_8 239 (by decide +kernel)) (by decide +kernel)
theorem kw871 : Cond.instanceMethod yX12_hours ∈ wT := wT_in (tb_9 0 (by decide +kernel)) (by decide +kernel)
theorem kw872 : Cond.selects RX12 yX12_hours yX12_hours ∈ wT := wT_in (tb_9 1 (by decide +kernel)) (by decide +kernel)
theorem kw873 : Cond.code yX11_of cX11_of 5 (some .int) ∈ wT := wT_in (tb_6 13 (by decide +kernel)) (by decide +kernel)
theorem kw874 : Cond.methodLink RL 69 yX11_of ∈ wT := wT_in (tb_6 10 (by decide +kernel)) (by decide +kernel)
theorem kw875 : Cond.instanceMethod yX11_of ∈ wT := wT_in (tb_6 11 (by decide +kernel)) (by decide +kernel)
theorem kw876 : Cond.selects RX11 yX11_of yX11_of ∈ wT := wT_in (tb_6 12 (by decide +kernel)) (by decide +kernel)
theorem kw877 : Cond.codeWith yL_of cL_of 5 (some .int) [((0 : Nat), (10 : Nat), (13 : Nat), (45 : Nat)), ((0 : Nat), (10 : Nat), (17 : Nat), (13 : Nat))] ∈ wT := wT_in (tb_6 9 (by decide +kernel)) (by decide +kernel)
theorem kw878 : Cond.methodLink RL 169 yL_of ∈ wT := wT_in (tb_6 7 (by decide +kernel)) (by decide +kernel)
theorem kw879 : Cond.static yL_of ∈ wT := wT_in (tb_6 8 (by decide +kernel)) (by decide +kernel)
theorem kw880 : Cond.code yX12_of cX12_of 3 (some .int) ∈ wT := wT_in (tb_9 40 (by decide +kernel)) (by decide +kernel)
theorem kw881 : Cond.methodLink RL 171 yX12_of ∈ wT := wT_in (tb_9 37 (by decide +kernel)) (by decide +kernel)
theorem kw882 : Cond.instanceMethod yX12_of ∈ wT := wT_in (tb_9 38 (by decide +kernel)) (by decide +kernel)
theorem kw883 : Cond.selects RX12 yX12_of yX12_of ∈ wT := wT_in (tb_9 39 (by decide +kernel)) (by decide +kernel)
theorem kw884 : Cond.code yX11_track cX11_track 5 (some .int) ∈ wT := wT_in (tb_6 20 (by decide +kernel)) (by decide +kernel)
theorem kw885 : Cond.methodLink RL 72 yX11_track ∈ wT := wT_in (tb_6 17 (by decide +kernel)) (by decide +kernel)
theorem kw886 : Cond.instanceMethod yX11_track ∈ wT := wT_in (tb_6 18 (by decide +kernel)) (by decide +kernel)
theorem kw887 : Cond.selects RX11 yX11_track yX11_track ∈ wT := wT_in (tb_6 19 (by decide +kernel)) (by decide +kernel)
theorem kw888 : Cond.codeWith yL_track cL_track 6 (some .int) [((0 : Nat), (12 : Nat), (15 : Nat), (45 : Nat)), ((0 : Nat), (12 : Nat), (19 : Nat), (13 : Nat))] ∈ wT := wT_in (tb_6 16 (by decide +kernel)) (by decide +kernel)
theorem kw889 : Cond.methodLink RL 172 yL_track ∈ wT := wT_in (tb_6 14 (by decide +kernel)) (by decide +kernel)
theorem kw890 : Cond.static yL_track ∈ wT := wT_in (tb_6 15 (by decide +kernel)) (by decide +kernel)
theorem kw891 : Cond.code yX12_track cX12_track 4 (some .int) ∈ wT := wT_in (tb_9 44 (by decide +kernel)) (by decide +kernel)
theorem kw892 : Cond.methodLink RL 174 yX12_track ∈ wT := wT_in (tb_9 41 (by decide +kernel)) (by decide +kernel)
theorem kw893 : Cond.instanceMethod yX12_track ∈ wT := wT_in (tb_9 42 (by decide +kernel)) (by decide +kernel)
theorem kw894 : Cond.selects RX12 yX12_track yX12_track ∈ wT := wT_in (tb_9 43 (by decide +kernel)) (by decide +kernel)
theorem kw895 : Cond.code yX11_plan cX11_plan 7 (some .int) ∈ wT := wT_in (tb_6 32 (by decide +kernel)) (by decide +kernel)
theorem kw896 : Cond.methodLink RL 75 yX11_plan ∈ wT := wT_in (tb_6 29 (by decide +kernel)) (by decide +kernel)
theorem kw897 : Cond.instanceMethod yX11_plan ∈ wT := wT_in (tb_6 30 (by decide +kernel)) (by decide +kernel)
theorem kw898 : Cond.selects RX11 yX11_plan yX11_plan ∈ wT := wT_in (tb_6 31 (by decide +kernel)) (by decide +kernel)
theorem kw899 : Cond.codeWith yL_plan cL_plan 8 (some .int) [((0 : Nat), (16 : Nat), (19 : Nat), (45 : Nat)), ((0 : Nat), (16 : Nat), (23 : Nat), (13 : Nat))] ∈ wT := wT_in (tb_6 28 (by decide +kernel)) (by decide +kernel)
theorem kw900 : Cond.methodLink RL 175 yL_plan ∈ wT := wT_in (tb_6 26 (by decide +kernel)) (by decide +kernel)
theorem kw901 : Cond.static yL_plan ∈ wT := wT_in (tb_6 27 (by decide +kernel)) (by decide +kernel)
theorem kw902 : Cond.code yX12_plan cX12_plan 6 (some .int) ∈ wT := wT_in (tb_9 49 (by decide +kernel)) (by decide +kernel)
theorem kw903 : Cond.methodLink RL 178 yX12_plan ∈ wT := wT_in (tb_9 46 (by decide +kernel)) (by decide +kernel)
theorem kw904 : Cond.instanceMethod yX12_plan ∈ wT := wT_in (tb_9 47 (by decide +kernel)) (by decide +kernel)
theorem kw905 : Cond.selects RX12 yX12_plan yX12_plan ∈ wT := wT_in (tb_9 48 (by decide +kernel)) (by decide +kernel)
theorem kw906 : Cond.code yX11_zone cX11_zone 10 (some .int) ∈ wT := wT_in (tb_6 88 (by decide +kernel)) (by decide +kernel)
theorem kw907 : Cond.methodLink RL 79 yX11_zone ∈ wT := wT_in (tb_6 85 (by decide +kernel)) (by decide +kernel)
theorem kw908 : Cond.instanceMethod yX11_zone ∈ wT := wT_in (tb_6 86 (by decide +kernel)) (by decide +kernel)
theorem kw909 : Cond.selects RX11 yX11_zone yX11_zone ∈ wT := wT_in (tb_6 87 (by decide +kernel)) (by decide +kernel)
theorem kw910 : Cond.codeWith yL_zone cL_zone 9 (some .int) [((0 : Nat), (18 : Nat), (21 : Nat), (13 : Nat))] ∈ wT := wT_in (tb_6 84 (by decide +kernel)) (by decide +kernel)
theorem kw911 : Cond.methodLink RL 179 yL_zone ∈ wT := wT_in (tb_6 82 (by decide +kernel)) (by decide +kernel)
theorem kw912 : Cond.static yL_zone ∈ wT := wT_in (tb_6 83 (by decide +kernel)) (by decide +kernel)
theorem kw913 : Cond.code yX12_zone cX12_zone 8 (some .int) ∈ wT := wT_in (tb_9 57 (by decide +kernel)) (by decide +kernel)
theorem kw914 : Cond.methodLink RL 181 yX12_zone ∈ wT := wT_in (tb_9 54 (by decide +kernel)) (by decide +kernel)
theorem kw915 : Cond.instanceMethod yX12_zone ∈ wT := wT_in (tb_9 55 (by decide +kernel)) (by decide +kernel)
theorem kw916 : Cond.selects RX12 yX12_zone yX12_zone ∈ wT := wT_in (tb_9 56 (by decide +kernel)) (by decide +kernel)
theorem kw917 : Cond.code yX11_sight cX11_sight 4 (some .int) ∈ wT := wT_in (tb_6 135 (by decide +kernel)) (by decide +kernel)
theorem kw918 : Cond.methodLink RL 82 yX11_sight ∈ wT := wT_in (tb_6 132 (by decide +kernel)) (by decide +kernel)
theorem kw919 : Cond.instanceMethod yX11_sight ∈ wT := wT_in (tb_6 133 (by decide +kernel)) (by decide +kernel)
theorem kw920 : Cond.selects RX11 yX11_sight yX11_sight ∈ wT := wT_in (tb_6 134 (by decide +kernel)) (by decide +kernel)
theorem kw921 : Cond.codeWith yL_sight cL_sight 6 (some .int) [((0 : Nat), (12 : Nat), (15 : Nat), (13 : Nat))] ∈ wT := wT_in (tb_6 131 (by decide +kernel)) (by decide +kernel)
theorem kw922 : Cond.methodLink RL 182 yL_sight ∈ wT := wT_in (tb_6 129 (by decide +kernel)) (by decide +kernel)
theorem kw923 : Cond.static yL_sight ∈ wT := wT_in (tb_6 130 (by decide +kernel)) (by decide +kernel)
theorem kw924 : Cond.code yX12_sight cX12_sight 4 (some .int) ∈ wT := wT_in (tb_9 64 (by decide +kernel)) (by decide +kernel)
theorem kw925 : Cond.methodLink RL 184 yX12_sight ∈ wT := wT_in (tb_9 61 (by decide +kernel)) (by decide +kernel)
theorem kw926 : Cond.instanceMethod yX12_sight ∈ wT := wT_in (tb_9 62 (by decide +kernel)) (by decide +kernel)
theorem kw927 : Cond.selects RX12 yX12_sight yX12_sight ∈ wT := wT_in (tb_9 63 (by decide +kernel)) (by decide +kernel)
theorem kw928 : Cond.code yX11_clear cX11_clear 1 (some .int) ∈ wT := wT_in (tb_2 153 (by decide +kernel)) (by decide +kernel)
theorem kw929 : Cond.methodLink RL 185 yX11_clear ∈ wT := wT_in (tb_2 150 (by decide +kernel)) (by decide +kernel)
theorem kw930 : Cond.instanceMethod yX11_clear ∈ wT := wT_in (tb_2 151 (by decide +kernel)) (by decide +kernel)
theorem kw931 : Cond.selects RX11 yX11_clear yX11_clear ∈ wT := wT_in (tb_2 152 (by decide +kernel)) (by decide +kernel)
theorem kw932 : Cond.code yX12_clear cX12_clear 2 (some .int) ∈ wT := wT_in (tb_9 68 (by decide +kernel)) (by decide +kernel)
theorem kw933 : Cond.methodLink RL 188 yX12_clear ∈ wT := wT_in (tb_9 65 (by decide +kernel)) (by decide +kernel)
theorem kw934 : Cond.instanceMethod yX12_clear ∈ wT := wT_in (tb_9 66 (by decide +kernel)) (by decide +kernel)
theorem kw935 : Cond.selects RX12 yX12_clear yX12_clear ∈ wT := wT_in (tb_9 67 (by decide +kernel)) (by decide +kernel)
theorem kw936 : Cond.code yX11_ways cX11_ways 1 (some .int) ∈ wT := wT_in (tb_2 161 (by decide +kernel)) (by decide +kernel)
theorem kw937 : Cond.methodLink RL 189 yX11_ways ∈ wT := wT_in (tb_2 158 (by decide +kernel)) (by decide +kernel)
theorem kw938 : Cond.instanceMethod yX11_ways ∈ wT := wT_in (tb_2 159 (by decide +kernel)) (by decide +kernel)
theorem kw939 : Cond.selects RX11 yX11_ways yX11_ways ∈ wT := wT_in (tb_2 160 (by decide +kernel)) (by decide +kernel)
theorem kw940 : Cond.code yX12_ways cX12_ways 1 (some .int) ∈ wT := wT_in (tb_9 72 (by decide +kernel)) (by decide +kernel)
theorem kw941 : Cond.methodLink RL 192 yX12_ways ∈ wT := wT_in (tb_9 69 (by decide +kernel)) (by decide +kernel)
theorem kw942 : Cond.instanceMethod yX12_ways ∈ wT := wT_in (tb_9 70 (by decide +kernel)) (by decide +kernel)
theorem kw943 : Cond.selects RX12 yX12_ways yX12_ways ∈ wT := wT_in (tb_9 71 (by decide +kernel)) (by decide +kernel)
theorem kw944 : Cond.code yX11_way cX11_way 2 (some .int) ∈ wT := wT_in (tb_3 24 (by decide +kernel)) (by decide +kernel)
theorem kw945 : Cond.methodLink RL 193 yX11_way ∈ wT := wT_in (tb_3 21 (by decide +kernel)) (by decide +kernel)
theorem kw946 : Cond.instanceMethod yX11_way ∈ wT := wT_in (tb_3 22 (by decide +kernel)) (by decide +kernel)
theorem kw947 : Cond.selects RX11 yX11_way yX11_way ∈ wT := wT_in (tb_3 23 (by decide +kernel)) (by decide +kernel)
theorem kw948 : Cond.code yX12_way cX12_way 6 (some .int) ∈ wT := wT_in (tb_9 96 (by decide +kernel)) (by decide +kernel)
theorem kw949 : Cond.methodLink RL 196 yX12_way ∈ wT := wT_in (tb_9 93 (by decide +kernel)) (by decide +kernel)
theorem kw950 : Cond.instanceMethod yX12_way ∈ wT := wT_in (tb_9 94 (by decide +kernel)) (by decide +kernel)
theorem kw951 : Cond.selects RX12 yX12_way yX12_way ∈ wT := wT_in (tb_9 95 (by decide +kernel)) (by decide +kernel)
theorem kw952 : Cond.code yX11_log cX11_log 3 (some .int) ∈ wT := wT_in (tb_6 146 (by decide +kernel)) (by decide +kernel)
theorem kw953 : Cond.methodLink RL 85 yX11_log ∈ wT := wT_in (tb_6 143 (by decide +kernel)) (by decide +kernel)
theorem kw954 : Cond.instanceMethod yX11_log ∈ wT := wT_in (tb_6 144 (by decide +kernel)) (by decide +kernel)
theorem kw955 : Cond.selects RX11 yX11_log yX11_log ∈ wT := wT_in (tb_6 145 (by decide +kernel)) (by decide +kernel)
theorem kw956 : Cond.codeWith yL_log cL_log 5 (some .int) [((0 : Nat), (10 : Nat), (13 : Nat), (13 : Nat))] ∈ wT := wT_in (tb_6 142 (by decide +kernel)) (by decide +kernel)
theorem kw957 : Cond.methodLink RL 197 yL_log ∈ wT := wT_in (tb_6 140 (by decide +kernel)) (by decide +kernel)
theorem kw958 : Cond.static yL_log ∈ wT := wT_in (tb_6 141 (by decide +kernel)) (by decide +kernel)
theorem kw959 : Cond.code yX12_log cX12_log 3 (some .int) ∈ wT := wT_in (tb_9 100 (by decide +kernel)) (by decide +kernel)
theorem kw960 : Cond.methodLink RL 199 yX12_log ∈ wT := wT_in (tb_9 97 (by decide +kernel)) (by decide +kernel)
theorem kw961 : Cond.instanceMethod yX12_log ∈ wT := wT_in (tb_9 98 (by decide +kernel)) (by decide +kernel)
theorem kw962 : Cond.selects RX12 yX12_log yX12_log ∈ wT := wT_in (tb_9 99 (by decide +kernel)) (by decide +kernel)
theorem kw963 : Cond.code yX11_unlog cX11_unlog 2 (some .int) ∈ wT := wT_in (tb_3 32 (by decide +kernel)) (by decide +kernel)
theorem kw964 : Cond.methodLink RL 200 yX11_unlog ∈ wT := wT_in (tb_3 29 (by decide +kernel)) (by decide +kernel)
theorem kw965 : Cond.instanceMethod yX11_unlog ∈ wT := wT_in (tb_3 30 (by decide +kernel)) (by decide +kernel)
theorem kw966 : Cond.selects RX11 yX11_unlog yX11_unlog ∈ wT := wT_in (tb_3 31 (by decide +kernel)) (by decide +kernel)
theorem kw967 : Cond.code yX12_unlog cX12_unlog 2 (some .int) ∈ wT := wT_in (tb_9 104 (by decide +kernel)) (by decide +kernel)
theorem kw968 : Cond.methodLink RL 203 yX12_unlog ∈ wT := wT_in (tb_9 101 (by decide +kernel)) (by decide +kernel)
theorem kw969 : Cond.instanceMethod yX12_unlog ∈ wT := wT_in (tb_9 102 (by decide +kernel)) (by decide +kernel)
theorem kw970 : Cond.selects RX12 yX12_unlog yX12_unlog ∈ wT := wT_in (tb_9 103 (by decide +kernel)) (by decide +kernel)
theorem kw971 : Cond.code yX11_leaks cX11_leaks 6 (some .int) ∈ wT := wT_in (tb_6 157 (by decide +kernel)) (by decide +kernel)
theorem kw972 : Cond.methodLink RL 88 yX11_leaks ∈ wT := wT_in (tb_6 154 (by decide +kernel)) (by decide +kernel)
theorem kw973 : Cond.instanceMethod yX11_leaks ∈ wT := wT_in (tb_6 155 (by decide +kernel)) (by decide +kernel)
theorem kw974 : Cond.selects RX11 yX11_leaks yX11_leaks ∈ wT := wT_in (tb_6 156 (by decide +kernel)) (by decide +kernel)
theorem kw975 : Cond.codeWith yL_leaks cL_leaks 4 (some .int) [((0 : Nat), (9 : Nat), (12 : Nat), (13 : Nat))] ∈ wT := wT_in (tb_6 153 (by decide +kernel)) (by decide +kernel)
theorem kw976 : Cond.methodLink RL 204 yL_leaks ∈ wT := wT_in (tb_6 151 (by decide +kernel)) (by decide +kernel)
theorem kw977 : Cond.static yL_leaks ∈ wT := wT_in (tb_6 152 (by decide +kernel)) (by decide +kernel)
theorem kw978 : Cond.code yX12_leaks cX12_leaks 6 (some .int) ∈ wT := wT_in (tb_9 108 (by decide +kernel)) (by decide +kernel)
theorem kw979 : Cond.methodLink RL 206 yX12_leaks ∈ wT := wT_in (tb_9 105 (by decide +kernel)) (by decide +kernel)
theorem kw980 : Cond.instanceMethod yX12_leaks ∈ wT := wT_in (tb_9 106 (by decide +kernel)) (by decide +kernel)
theorem kw981 : Cond.selects RX12 yX12_leaks yX12_leaks ∈ wT := wT_in (tb_9 107 (by decide +kernel)) (by decide +kernel)
theorem kw982 : Cond.code yX11_enter cX11_enter 3 (some .int) ∈ wT := wT_in (tb_6 171 (by decide +kernel)) (by decide +kernel)
theorem kw983 : Cond.methodLink RL 91 yX11_enter ∈ wT := wT_in (tb_6 168 (by decide +kernel)) (by decide +kernel)
theorem kw984 : Cond.instanceMethod yX11_enter ∈ wT := wT_in (tb_6 169 (by decide +kernel)) (by decide +kernel)
theorem kw985 : Cond.selects RX11 yX11_enter yX11_enter ∈ wT := wT_in (tb_6 170 (by decide +kernel)) (by decide +kernel)
theorem kw986 : Cond.codeWith yL_enter cL_enter 4 (some .int) [((0 : Nat), (9 : Nat), (12 : Nat), (45 : Nat))] ∈ wT := wT_in (tb_6 167 (by decide +kernel)) (by decide +kernel)
theorem kw987 : Cond.methodLink RL 207 yL_enter ∈ wT := wT_in (tb_6 165 (by decide +kernel)) (by decide +kernel)
theorem kw988 : Cond.static yL_enter ∈ wT := wT_in (tb_6 166 (by decide +kernel)) (by decide +kernel)
theorem kw989 : Cond.code yX12_enter cX12_enter 2 (some .int) ∈ wT := wT_in (tb_9 120 (by decide +kernel)) (by decide +kernel)
theorem kw990 : Cond.methodLink RL 209 yX12_enter ∈ wT := wT_in (tb_9 117 (by decide +kernel)) (by decide +kernel)
theorem kw991 : Cond.instanceMethod yX12_enter ∈ wT := wT_in (tb_9 118 (by decide +kernel)) (by decide +kernel)
theorem kw992 : Cond.selects RX12 yX12_enter yX12_enter ∈ wT := wT_in (tb_9 119 (by decide +kernel)) (by decide +kernel)
theorem kw993 : Cond.code yX11_result cX11_result 2 (some .int) ∈ wT := wT_in (tb_6 178 (by decide +kernel)) (by decide +kernel)
theorem kw994 : Cond.methodLink RL 94 yX11_result ∈ wT := wT_in (tb_6 175 (by decide +kernel)) (by decide +kernel)
theorem kw995 : Cond.instanceMethod yX11_result ∈ wT := wT_in (tb_6 176 (by decide +kernel)) (by decide +kernel)
theorem kw996 : Cond.selects RX11 yX11_result yX11_result ∈ wT := wT_in (tb_6 177 (by decide +kernel)) (by decide +kernel)
theorem kw997 : Cond.codeWith yL_result cL_result 4 (some .int) [((0 : Nat), (9 : Nat), (12 : Nat), (45 : Nat))] ∈ wT := wT_in (tb_6 174 (by decide +kernel)) (by decide +kernel)
theorem kw998 : Cond.methodLink RL 210 yL_result ∈ wT := wT_in (tb_6 172 (by decide +kernel)) (by decide +kernel)
theorem kw999 : Cond.static yL_result ∈ wT := wT_in (tb_6 173 (by decide +kernel)) (by decide +kernel)
theorem kw1000 : Cond.code yX12_result cX12_result 2 (some .int) ∈ wT := wT_in (tb_9 124 (by decide +kernel)) (by decide +kernel)
theorem kw1001 : Cond.methodLink RL 212 yX12_result ∈ wT := wT_in (tb_9 121 (by decide +kernel)) (by decide +kernel)
theorem kw1002 : Cond.instanceMethod yX12_result ∈ wT := wT_in (tb_9 122 (by decide +kernel)) (by decide +kernel)
theorem kw1003 : Cond.selects RX12 yX12_result yX12_result ∈ wT := wT_in (tb_9 123 (by decide +kernel)) (by decide +kernel)
theorem kw1004 : Cond.code yX11_ranked cX11_ranked 4 (some .int) ∈ wT := wT_in (tb_3 36 (by decide +kernel)) (by decide +kernel)
theorem kw1005 : Cond.methodLink RL 213 yX11_ranked ∈ wT := wT_in (tb_3 33 (by decide +kernel)) (by decide +kernel)
theorem kw1006 : Cond.instanceMethod yX11_ranked ∈ wT := wT_in (tb_3 34 (by decide +kernel)) (by decide +kernel)
theorem kw1007 : Cond.selects RX11 yX11_ranked yX11_ranked ∈ wT := wT_in (tb_3 35 (by decide +kernel)) (by decide +kernel)
theorem kw1008 : Cond.code yX12_ranked cX12_ranked 6 (some .int) ∈ wT := wT_in (tb_9 136 (by decide +kernel)) (by decide +kernel)
theorem kw1009 : Cond.methodLink RL 216 yX12_ranked ∈ wT := wT_in (tb_9 133 (by decide +kernel)) (by decide +kernel)
theorem kw1010 : Cond.instanceMethod yX12_ranked ∈ wT := wT_in (tb_9 134 (by decide +kernel)) (by decide +kernel)
theorem kw1011 : Cond.selects RX12 yX12_ranked yX12_ranked ∈ wT := wT_in (tb_9 135 (by decide +kernel)) (by decide +kernel)
theorem kw1012 : Cond.code yX11_count cX11_count 2 (some .int) ∈ wT := wT_in (tb_3 60 (by decide +kernel)) (by decide +kernel)
theorem kw1013 : Cond.methodLink RL 217 yX11_count ∈ wT := wT_in (tb_3 57 (by decide +kernel)) (by decide +kernel)
theorem kw1014 : Cond.instanceMethod yX11_count ∈ wT := wT_in (tb_3 58 (by decide +kernel)) (by decide +kernel)
theorem kw1015 : Cond.selects RX11 yX11_count yX11_count ∈ wT := wT_in (tb_3 59 (by decide +kernel)) (by decide +kernel)
theorem kw1016 : Cond.code yX12_count cX12_count 4 (some .int) ∈ wT := wT_in (tb_9 144 (by decide +kernel)) (by decide +kernel)
theorem kw1017 : Cond.methodLink RL 220 yX12_count ∈ wT := wT_in (tb_9 141 (by decide +kernel)) (by decide +kernel)
theorem kw1018 : Cond.instanceMethod yX12_count ∈ wT := wT_in (tb_9 142 (by decide +kernel)) (by decide +kernel)
theorem kw1019 : Cond.selects RX12 yX12_count yX12_count ∈ wT := wT_in (tb_9 143 (by decide +kernel)) (by decide +kernel)
theorem kw1020 : Cond.instantiable RX11 15 ∈ wT := wT_in (tb_1 28 (by decide +kernel)) (by decide +kernel)
theorem kw1021 : Cond.instantiable RX12 98 ∈ wT := wT_in (tb_6 180 (by decide +kernel)) (by decide +kernel)
theorem kw1022 : Cond.classLink RL 8 RX11 ∈ wT := wT_in (tb_1 27 (by decide +kernel)) (by decide +kernel)
theorem kw1023 : Cond.code yX11_init cX11_init 1 none ∈ wT := wT_in (tb_1 31 (by decide +kernel)) (by decide +kernel)
theorem kw1024 : Cond.methodLink RL 97 yX11_init ∈ wT := wT_in (tb_1 29 (by decide +kernel)) (by decide +kernel)
theorem kw1025 : Cond.instanceMethod yX11_init ∈ wT := wT_in (tb_1 30 (by decide +kernel)) (by decide +kernel)
theorem kw1026 : Cond.classLink RL 98 RX12 ∈ wT := wT_in (tb_6 179 (by decide +kernel)) (by decide +kernel)
theorem kw1027 : Cond.code yX12_init cX12_init 1 none ∈ wT := wT_in (tb_6 183 (by decide +kernel)) (by decide +kernel)
theorem kw1028 : Cond.methodLink RL 100 yX12_init ∈ wT := wT_in (tb_6 181 (by decide +kernel)) (by decide +kernel)
theorem kw1029 : Cond.instanceMethod yX12_init ∈ wT := wT_in (tb_6 182 (by decide +kernel)) (by decide +kernel)
theorem kw1030 : Cond.arrayClass .long ∈ wT := wT_in (tb_9 145 (by decide +kernel)) (by decide +kernel)
theorem hd56 : yX11_wind.cls = RX11 ∧ yX11_wind.cls ≠ "java/lang/invoke/MethodHandle" ∧ yX11_wind.cls ≠ "java/lang/invoke/VarHandle" ∧ (parseMethodDescriptor yX11_wind.desc).map (fun d => d.parameters.length) = some 6 := by decide +kernel
theorem hd57 : yL_wind.cls ≠ "java/lang/invoke/MethodHandle" ∧ yL_wind.cls ≠ "java/lang/invoke/VarHandle" ∧ (parseMethodDescriptor yL_wind.desc).map (fun d => d.parameters.length) = some 8 := by decide +kernel
theorem hd58 : yX12_wind.cls = RX12 ∧ yX12_wind.cls ≠ "java/lang/invoke/MethodHandle" ∧ yX12_wind.cls ≠ "java/lang/invoke/VarHandle" ∧ (parseMethodDescriptor yX12_wind.desc).map (fun d => d.parameters.length) = some 6 := by decide +kernel
theorem hd59 : yX12_thrown.cls = RX12 ∧ yX12_thrown.cls ≠ "java/lang/invoke/MethodHandle" ∧ yX12_thrown.cls ≠ "java/lang/invoke/VarHandle" ∧ (parseMethodDescriptor yX12_thrown.desc).map (fun d => d.parameters.length) = some 0 := by decide +kernel
theorem hd60 : yX11_forecast.cls = RX11 ∧ yX11_forecast.cls ≠ "java/lang/invoke/MethodHandle" ∧ yX11_forecast.cls ≠ "java/lang/invoke/VarHandle" ∧ (parseMethodDescriptor yX11_forecast.desc).map (fun d => d.parameters.length) = some 6 := by decide +kernel
theorem hd61 : yL_forecast.cls ≠ "java/lang/invoke/MethodHandle" ∧ yL_forecast.cls ≠ "java/lang/invoke/VarHandle" ∧ (parseMethodDescriptor yL_forecast.desc).map (fun d => d.parameters.length) = some 8 := by decide +kernel
theorem hd62 : yX12_forecast.cls = RX12 ∧ yX12_forecast.cls ≠ "java/lang/invoke/MethodHandle" ∧ yX12_forecast.cls ≠ "java/lang/invoke/VarHandle" ∧ (parseMethodDescriptor yX12_forecast.desc).map (fun d => d.parameters.length) = some 6 := by decide +kernel
theorem hd63 : yX11_told.cls = RX11 ∧ yX11_told.cls ≠ "java/lang/invoke/MethodHandle" ∧ yX11_told.cls ≠ "java/lang/invoke/VarHandle" ∧ (parseMethodDescriptor yX11_told.desc).map (fun d => d.parameters.length) = some 4 := by decide +kernel
theorem hd64 : yL_told.cls ≠ "java/lang/invoke/MethodHandle" ∧ yL_told.cls ≠ "java/lang/invoke/VarHandle" ∧ (parseMethodDescriptor yL_told.desc).map (fun d => d.parameters.length) = some 6 := by decide +kernel
theorem hd65 : yX12_told.cls = RX12 ∧ yX12_told.cls ≠ "java/lang/invoke/MethodHandle" ∧ yX12_told.cls ≠ "java/lang/invoke/VarHandle" ∧ (parseMethodDescriptor yX12_told.desc).map (fun d => d.parameters.length) = some 4 := by decide +kernel
theorem hd66 : yX11_found.cls = RX11 ∧ yX11_found.cls ≠ "java/lang/invoke/MethodHandle" ∧ yX11_found.cls ≠ "java/lang/invoke/VarHandle" ∧ (parseMethodDescriptor yX11_found.desc).map (fun d => d.parameters.length) = some 3 := by decide +kernel
theorem hd67 : yL_found.cls ≠ "java/lang/invoke/MethodHandle" ∧ yL_found.cls ≠ "java/lang/invoke/VarHandle" ∧ (parseMethodDescriptor yL_found.desc).map (fun d => d.parameters.length) = some 5 := by decide +kernel
theorem hd68 : yX12_found.cls = RX12 ∧ yX12_found.cls ≠ "java/lang/invoke/MethodHandle" ∧ yX12_found.cls ≠ "java/lang/invoke/VarHandle" ∧ (parseMethodDescriptor yX12_found.desc).map (fun d => d.parameters.length) = some 3 := by decide +kernel
theorem hd69 : yX11_cloud.cls = RX11 ∧ yX11_cloud.cls ≠ "java/lang/invoke/MethodHandle" ∧ yX11_cloud.cls ≠ "java/lang/invoke/VarHandle" ∧ (parseMethodDescriptor yX11_cloud.desc).map (fun d => d.parameters.length) = some 3 := by decide +kernel
theorem hd70 : yL_cloud.cls ≠ "java/lang/invoke/MethodHandle" ∧ yL_cloud.cls ≠ "java/lang/invoke/VarHandle" ∧ (parseMethodDescriptor yL_cloud.desc).map (fun d => d.parameters.length) = some 5 := by decide +kernel
theorem hd71 : yX12_cloud.cls = RX12 ∧ yX12_cloud.cls ≠ "java/lang/invoke/MethodHandle" ∧ yX12_cloud.cls ≠ "java/lang/invoke/VarHandle" ∧ (parseMethodDescriptor yX12_cloud.desc).map (fun d => d.parameters.length) = some 3 := by decide +kernel
theorem hd72 : yX11_balloon.cls = RX11 ∧ yX11_balloon.cls ≠ "java/lang/invoke/MethodHandle" ∧ yX11_balloon.cls ≠ "java/lang/invoke/VarHandle" ∧ (parseMethodDescriptor yX11_balloon.desc).map (fun d => d.parameters.length) = some 2 := by decide +kernel
theorem hd73 : yL_balloon.cls ≠ "java/lang/invoke/MethodHandle" ∧ yL_balloon.cls ≠ "java/lang/invoke/VarHandle" ∧ (parseMethodDescriptor yL_balloon.desc).map (fun d => d.parameters.length) = some 4 := by decide +kernel
theorem hd74 : yX12_balloon.cls = RX12 ∧ yX12_balloon.cls ≠ "java/lang/invoke/MethodHandle" ∧ yX12_balloon.cls ≠ "java/lang/invoke/VarHandle" ∧ (parseMethodDescriptor yX12_balloon.desc).map (fun d => d.parameters.length) = some 2 := by decide +kernel
theorem hd75 : yX11_cylinder.cls = RX11 ∧ yX11_cylinder.cls ≠ "java/lang/invoke/MethodHandle" ∧ yX11_cylinder.cls ≠ "java/lang/invoke/VarHandle" ∧ (parseMethodDescriptor yX11_cylinder.desc).map (fun d => d.parameters.length) = some 3 := by decide +kernel
theorem hd76 : yL_cylinder.cls ≠ "java/lang/invoke/MethodHandle" ∧ yL_cylinder.cls ≠ "java/lang/invoke/VarHandle" ∧ (parseMethodDescriptor yL_cylinder.desc).map (fun d => d.parameters.length) = some 5 := by decide +kernel
theorem hd77 : yX12_cylinder.cls = RX12 ∧ yX12_cylinder.cls ≠ "java/lang/invoke/MethodHandle" ∧ yX12_cylinder.cls ≠ "java/lang/invoke/VarHandle" ∧ (parseMethodDescriptor yX12_cylinder.desc).map (fun d => d.parameters.length) = some 3 := by decide +kernel
theorem hd78 : yX11_fillable.cls = RX11 ∧ yX11_fillable.cls ≠ "java/lang/invoke/MethodHandle" ∧ yX11_fillable.cls ≠ "java/lang/invoke/VarHandle" ∧ (parseMethodDescriptor yX11_fillable.desc).map (fun d => d.parameters.length) = some 3 := by decide +kernel
theorem hd79 : yL_fillable.cls ≠ "java/lang/invoke/MethodHandle" ∧ yL_fillable.cls ≠ "java/lang/invoke/VarHandle" ∧ (parseMethodDescriptor yL_fillable.desc).map (fun d => d.parameters.length) = some 5 := by decide +kernel
theorem hd80 : yX12_fillable.cls = RX12 ∧ yX12_fillable.cls ≠ "java/lang/invoke/MethodHandle" ∧ yX12_fillable.cls ≠ "java/lang/invoke/VarHandle" ∧ (parseMethodDescriptor yX12_fillable.desc).map (fun d => d.parameters.length) = some 3 := by decide +kernel
theorem hd81 : yX11_fill.cls = RX11 ∧ yX11_fill.cls ≠ "java/lang/invoke/MethodHandle" ∧ yX11_fill.cls ≠ "java/lang/invoke/VarHandle" ∧ (parseMethodDescriptor yX11_fill.desc).map (fun d => d.parameters.length) = some 3 := by decide +kernel
theorem hd82 : yL_fill.cls ≠ "java/lang/invoke/MethodHandle" ∧ yL_fill.cls ≠ "java/lang/invoke/VarHandle" ∧ (parseMethodDescriptor yL_fill.desc).map (fun d => d.parameters.length) = some 5 := by decide +kernel
theorem hd83 : yX12_fill.cls = RX12 ∧ yX12_fill.cls ≠ "java/lang/invoke/MethodHandle" ∧ yX12_fill.cls ≠ "java/lang/invoke/VarHandle" ∧ (parseMethodDescriptor yX12_fill.desc).map (fun d => d.parameters.length) = some 3 := by decide +kernel
theorem hd84 : yX11_set.cls = RX11 ∧ yX11_set.cls ≠ "java/lang/invoke/MethodHandle" ∧ yX11_set.cls ≠ "java/lang/invoke/VarHandle" ∧ (parseMethodDescriptor yX11_set.desc).map (fun d => d.parameters.length) = some 3 := by decide +kernel
theorem hd85 : yL_set.cls ≠ "java/lang/invoke/MethodHandle" ∧ yL_set.cls ≠ "java/lang/invoke/VarHandle" ∧ (parseMethodDescriptor yL_set.desc).map (fun d => d.parameters.length) = some 5 := by decide +kernel
theorem hd86 : yX12_set.cls = RX12 ∧ yX12_set.cls ≠ "java/lang/invoke/MethodHandle" ∧ yX12_set.cls ≠ "java/lang/invoke/VarHandle" ∧ (parseMethodDescriptor yX12_set.desc).map (fun d => d.parameters.length) = some 3 := by decide +kernel
theorem hd87 : yX11_inspect.cls = RX11 ∧ yX11_inspect.cls ≠ "java/lang/invoke/MethodHandle" ∧ yX11_inspect.cls ≠ "java/lang/invoke/VarHandle" ∧ (parseMethodDescriptor yX11_inspect.desc).map (fun d => d.parameters.length) = some 1 := by decide +kernel
theorem hd88 : yL_inspect.cls ≠ "java/lang/invoke/MethodHandle" ∧ yL_inspect.cls ≠ "java/lang/invoke/VarHandle" ∧ (parseMethodDescriptor yL_inspect.desc).map (fun d => d.parameters.length) = some 3 := by decide +kernel
theorem hd89 : yX12_inspect.cls = RX12 ∧ yX12_inspect.cls ≠ "java/lang/invoke/MethodHandle" ∧ yX12_inspect.cls ≠ "java/lang/invoke/VarHandle" ∧ (parseMethodDescriptor yX12_inspect.desc).map (fun d => d.parameters.length) = some 1 := by decide +kernel
theorem hd90 : yX11_start.cls = RX11 ∧ yX11_start.cls ≠ "java/lang/invoke/MethodHandle" ∧ yX11_start.cls ≠ "java/lang/invoke/VarHandle" ∧ (parseMethodDescriptor yX11_start.desc).map (fun d => d.parameters.length) = some 3 := by decide +kernel
theorem hd91 : yL_start.cls ≠ "java/lang/invoke/MethodHandle" ∧ yL_start.cls ≠ "java/lang/invoke/VarHandle" ∧ (parseMethodDescriptor yL_start.desc).map (fun d => d.parameters.length) = some 5 := by decide +kernel
theorem hd92 : yX12_start.cls = RX12 ∧ yX12_start.cls ≠ "java/lang/invoke/MethodHandle" ∧ yX12_start.cls ≠ "java/lang/invoke/VarHandle" ∧ (parseMethodDescriptor yX12_start.desc).map (fun d => d.parameters.length) = some 3 := by decide +kernel
theorem hd93 : yX11_home.cls = RX11 ∧ yX11_home.cls ≠ "java/lang/invoke/MethodHandle" ∧ yX11_home.cls ≠ "java/lang/invoke/VarHandle" ∧ (parseMethodDescriptor yX11_home.desc).map (fun d => d.parameters.length) = some 1 := by decide +kernel
theorem hd94 : yL_home.cls ≠ "java/lang/invoke/MethodHandle" ∧ yL_home.cls ≠ "java/lang/invoke/VarHandle" ∧ (parseMethodDescriptor yL_home.desc).map (fun d => d.parameters.length) = some 3 := by decide +kernel
theorem hd95 : yX12_home.cls = RX12 ∧ yX12_home.cls ≠ "java/lang/invoke/MethodHandle" ∧ yX12_home.cls ≠ "java/lang/invoke/VarHandle" ∧ (parseMethodDescriptor yX12_home.desc).map (fun d => d.parameters.length) = some 1 := by decide +kernel
theorem hd96 : yX11_feed.cls = RX11 ∧ yX11_feed.cls ≠ "java/lang/invoke/MethodHandle" ∧ yX11_feed.cls ≠ "java/lang/invoke/VarHandle" ∧ (parseMethodDescriptor yX11_feed.desc).map (fun d => d.parameters.length) = some 5 := by decide +kernel
theorem hd97 : yX12_feed.cls = RX12 ∧ yX12_feed.cls ≠ "java/lang/invoke/MethodHandle" ∧ yX12_feed.cls ≠ "java/lang/invoke/VarHandle" ∧ (parseMethodDescriptor yX12_feed.desc).map (fun d => d.parameters.length) = some 5 := by decide +kernel
theorem hd98 : yX11_orders.cls = RX11 ∧ yX11_orders.cls ≠ "java/lang/invoke/MethodHandle" ∧ yX11_orders.cls ≠ "java/lang/invoke/VarHandle" ∧ (parseMethodDescriptor yX11_orders.desc).map (fun d => d.parameters.length) = some 2 := by decide +kernel
theorem hd99 : yL_orders.cls ≠ "java/lang/invoke/MethodHandle" ∧ yL_orders.cls ≠ "java/lang/invoke/VarHandle" ∧ (parseMethodDescriptor yL_orders.desc).map (fun d => d.parameters.length) = some 4 := by decide +kernel
theorem hd100 : yX12_orders.cls = RX12 ∧ yX12_orders.cls ≠ "java/lang/invoke/MethodHandle" ∧ yX12_orders.cls ≠ "java/lang/invoke/VarHandle" ∧ (parseMethodDescriptor yX12_orders.desc).map (fun d => d.parameters.length) = some 2 := by decide +kernel
theorem hd101 : yX11_fault.cls = RX11 ∧ yX11_fault.cls ≠ "java/lang/invoke/MethodHandle" ∧ yX11_fault.cls ≠ "java/lang/invoke/VarHandle" ∧ (parseMethodDescriptor yX11_fault.desc).map (fun d => d.parameters.length) = some 0 := by decide +kernel
theorem hd102 : yX12_fault.cls = RX12 ∧ yX12_fault.cls ≠ "java/lang/invoke/MethodHandle" ∧ yX12_fault.cls ≠ "java/lang/invoke/VarHandle" ∧ (parseMethodDescriptor yX12_fault.desc).map (fun d => d.parameters.length) = some 0 := by decide +kernel
theorem hd103 : yX11_act.cls = RX11 ∧ yX11_act.cls ≠ "java/lang/invoke/MethodHandle" ∧ yX11_act.cls ≠ "java/lang/invoke/VarHandle" ∧ (parseMethodDescriptor yX11_act.desc).map (fun d => d.parameters.length) = some 3 := by decide +kernel
theorem hd104 : yL_act.cls ≠ "java/lang/invoke/MethodHandle" ∧ yL_act.cls ≠ "java/lang/invoke/VarHandle" ∧ (parseMethodDescriptor yL_act.desc).map (fun d => d.parameters.length) = some 5 := by decide +kernel
theorem hd105 : yX12_act.cls = RX12 ∧ yX12_act.cls ≠ "java/lang/invoke/MethodHandle" ∧ yX12_act.cls ≠ "java/lang/invoke/VarHandle" ∧ (parseMethodDescriptor yX12_act.desc).map (fun d => d.parameters.length) = some 3 := by decide +kernel
theorem hd106 : yX11_hours.cls = RX11 ∧ yX11_hours.cls ≠ "java/lang/invoke/MethodHandle" ∧ yX11_hours.cls ≠ "java/lang/invoke/VarHandle" ∧ (parseMethodDescriptor yX11_hours.desc).map (fun d => d.parameters.length) = some 1 := by decide +kernel
theorem hd107 : yL_hours.cls ≠ "java/lang/invoke/MethodHandle" ∧ yL_hours.cls ≠ "java/lang/invoke/VarHandle" ∧ (parseMethodDescriptor yL_hours.desc).map (fun d => d.parameters.length) = some 3 := by decide +kernel
theorem hd108 : yX12_hours.cls = RX12 ∧ yX12_hours.cls ≠ "java/lang/invoke/MethodHandle" ∧ yX12_hours.cls ≠ "java/lang/invoke/VarHandle" ∧ (parseMethodDescriptor yX12_hours.desc).map (fun d => d.parameters.length) = some 1 := by decide +kernel
theorem hd109 : yX11_of.cls = RX11 ∧ yX11_of.cls ≠ "java/lang/invoke/MethodHandle" ∧ yX11_of.cls ≠ "java/lang/invoke/VarHandle" ∧ (parseMethodDescriptor yX11_of.desc).map (fun d => d.parameters.length) = some 2 := by decide +kernel
theorem hd110 : yL_of.cls ≠ "java/lang/invoke/MethodHandle" ∧ yL_of.cls ≠ "java/lang/invoke/VarHandle" ∧ (parseMethodDescriptor yL_of.desc).map (fun d => d.parameters.length) = some 4 := by decide +kernel
theorem hd111 : yX12_of.cls = RX12 ∧ yX12_of.cls ≠ "java/lang/invoke/MethodHandle" ∧ yX12_of.cls ≠ "java/lang/invoke/VarHandle" ∧ (parseMethodDescriptor yX12_of.desc).map (fun d => d.parameters.length) = some 2 := by decide +kernel
theorem hd112 : yX11_track.cls = RX11 ∧ yX11_track.cls ≠ "java/lang/invoke/MethodHandle" ∧ yX11_track.cls ≠ "java/lang/invoke/VarHandle" ∧ (parseMethodDescriptor yX11_track.desc).map (fun d => d.parameters.length) = some 3 := by decide +kernel
theorem hd113 : yL_track.cls ≠ "java/lang/invoke/MethodHandle" ∧ yL_track.cls ≠ "java/lang/invoke/VarHandle" ∧ (parseMethodDescriptor yL_track.desc).map (fun d => d.parameters.length) = some 5 := by decide +kernel
theorem hd114 : yX12_track.cls = RX12 ∧ yX12_track.cls ≠ "java/lang/invoke/MethodHandle" ∧ yX12_track.cls ≠ "java/lang/invoke/VarHandle" ∧ (parseMethodDescriptor yX12_track.desc).map (fun d => d.parameters.length) = some 3 := by decide +kernel
theorem hd115 : yX11_plan.cls = RX11 ∧ yX11_plan.cls ≠ "java/lang/invoke/MethodHandle" ∧ yX11_plan.cls ≠ "java/lang/invoke/VarHandle" ∧ (parseMethodDescriptor yX11_plan.desc).map (fun d => d.parameters.length) = some 5 := by decide +kernel
theorem hd116 : yL_plan.cls ≠ "java/lang/invoke/MethodHandle" ∧ yL_plan.cls ≠ "java/lang/invoke/VarHandle" ∧ (parseMethodDescriptor yL_plan.desc).map (fun d => d.parameters.length) = some 7 := by decide +kernel
theorem hd117 : yX12_plan.cls = RX12 ∧ yX12_plan.cls ≠ "java/lang/invoke/MethodHandle" ∧ yX12_plan.cls ≠ "java/lang/invoke/VarHandle" ∧ (parseMethodDescriptor yX12_plan.desc).map (fun d => d.parameters.length) = some 5 := by decide +kernel
theorem hd118 : yX11_zone.cls = RX11 ∧ yX11_zone.cls ≠ "java/lang/invoke/MethodHandle" ∧ yX11_zone.cls ≠ "java/lang/invoke/VarHandle" ∧ (parseMethodDescriptor yX11_zone.desc).map (fun d => d.parameters.length) = some 6 := by decide +kernel
theorem hd119 : yL_zone.cls ≠ "java/lang/invoke/MethodHandle" ∧ yL_zone.cls ≠ "java/lang/invoke/VarHandle" ∧ (parseMethodDescriptor yL_zone.desc).map (fun d => d.parameters.length) = some 8 := by decide +kernel
theorem hd120 : yX12_zone.cls = RX12 ∧ yX12_zone.cls ≠ "java/lang/invoke/MethodHandle" ∧ yX12_zone.cls ≠ "java/lang/invoke/VarHandle" ∧ (parseMethodDescriptor yX12_zone.desc).map (fun d => d.parameters.length) = some 6 := by decide +kernel
theorem hd121 : yX11_sight.cls = RX11 ∧ yX11_sight.cls ≠ "java/lang/invoke/MethodHandle" ∧ yX11_sight.cls ≠ "java/lang/invoke/VarHandle" ∧ (parseMethodDescriptor yX11_sight.desc).map (fun d => d.parameters.length) = some 3 := by decide +kernel
theorem hd122 : yL_sight.cls ≠ "java/lang/invoke/MethodHandle" ∧ yL_sight.cls ≠ "java/lang/invoke/VarHandle" ∧ (parseMethodDescriptor yL_sight.desc).map (fun d => d.parameters.length) = some 5 := by decide +kernel
theorem hd123 : yX12_sight.cls = RX12 ∧ yX12_sight.cls ≠ "java/lang/invoke/MethodHandle" ∧ yX12_sight.cls ≠ "java/lang/invoke/VarHandle" ∧ (parseMethodDescriptor yX12_sight.desc).map (fun d => d.parameters.length) = some 3 := by decide +kernel
theorem hd124 : yX11_clear.cls = RX11 ∧ yX11_clear.cls ≠ "java/lang/invoke/MethodHandle" ∧ yX11_clear.cls ≠ "java/lang/invoke/VarHandle" ∧ (parseMethodDescriptor yX11_clear.desc).map (fun d => d.parameters.length) = some 0 := by decide +kernel
theorem hd125 : yX12_clear.cls = RX12 ∧ yX12_clear.cls ≠ "java/lang/invoke/MethodHandle" ∧ yX12_clear.cls ≠ "java/lang/invoke/VarHandle" ∧ (parseMethodDescriptor yX12_clear.desc).map (fun d => d.parameters.length) = some 0 := by decide +kernel
theorem hd126 : yX11_ways.cls = RX11 ∧ yX11_ways.cls ≠ "java/lang/invoke/MethodHandle" ∧ yX11_ways.cls ≠ "java/lang/invoke/VarHandle" ∧ (parseMethodDescriptor yX11_ways.desc).map (fun d => d.parameters.length) = some 0 := by decide +kernel
theorem hd127 : yX12_ways.cls = RX12 ∧ yX12_ways.cls ≠ "java/lang/invoke/MethodHandle" ∧ yX12_ways.cls ≠ "java/lang/invoke/VarHandle" ∧ (parseMethodDescriptor yX12_ways.desc).map (fun d => d.parameters.length) = some 0 := by decide +kernel
theorem hd128 : yX11_way.cls = RX11 ∧ yX11_way.cls ≠ "java/lang/invoke/MethodHandle" ∧ yX11_way.cls ≠ "java/lang/invoke/VarHandle" ∧ (parseMethodDescriptor yX11_way.desc).map (fun d => d.parameters.length) = some 1 := by decide +kernel
theorem hd129 : yX12_way.cls = RX12 ∧ yX12_way.cls ≠ "java/lang/invoke/MethodHandle" ∧ yX12_way.cls ≠ "java/lang/invoke/VarHandle" ∧ (parseMethodDescriptor yX12_way.desc).map (fun d => d.parameters.length) = some 1 := by decide +kernel
theorem hd130 : yX11_log.cls = RX11 ∧ yX11_log.cls ≠ "java/lang/invoke/MethodHandle" ∧ yX11_log.cls ≠ "java/lang/invoke/VarHandle" ∧ (parseMethodDescriptor yX11_log.desc).map (fun d => d.parameters.length) = some 2 := by decide +kernel
theorem hd131 : yL_log.cls ≠ "java/lang/invoke/MethodHandle" ∧ yL_log.cls ≠ "java/lang/invoke/VarHandle" ∧ (parseMethodDescriptor yL_log.desc).map (fun d => d.parameters.length) = some 4 := by decide +kernel
theorem hd132 : yX12_log.cls = RX12 ∧ yX12_log.cls ≠ "java/lang/invoke/MethodHandle" ∧ yX12_log.cls ≠ "java/lang/invoke/VarHandle" ∧ (parseMethodDescriptor yX12_log.desc).map (fun d => d.parameters.length) = some 2 := by decide +kernel
theorem hd133 : yX11_unlog.cls = RX11 ∧ yX11_unlog.cls ≠ "java/lang/invoke/MethodHandle" ∧ yX11_unlog.cls ≠ "java/lang/invoke/VarHandle" ∧ (parseMethodDescriptor yX11_unlog.desc).map (fun d => d.parameters.length) = some 0 := by decide +kernel
theorem hd134 : yX12_unlog.cls = RX12 ∧ yX12_unlog.cls ≠ "java/lang/invoke/MethodHandle" ∧ yX12_unlog.cls ≠ "java/lang/invoke/VarHandle" ∧ (parseMethodDescriptor yX12_unlog.desc).map (fun d => d.parameters.length) = some 0 := by decide +kernel
theorem hd135 : yX11_leaks.cls = RX11 ∧ yX11_leaks.cls ≠ "java/lang/invoke/MethodHandle" ∧ yX11_leaks.cls ≠ "java/lang/invoke/VarHandle" ∧ (parseMethodDescriptor yX11_leaks.desc).map (fun d => d.parameters.length) = some 1 := by decide +kernel
theorem hd136 : yL_leaks.cls ≠ "java/lang/invoke/MethodHandle" ∧ yL_leaks.cls ≠ "java/lang/invoke/VarHandle" ∧ (parseMethodDescriptor yL_leaks.desc).map (fun d => d.parameters.length) = some 3 := by decide +kernel
theorem hd137 : yX12_leaks.cls = RX12 ∧ yX12_leaks.cls ≠ "java/lang/invoke/MethodHandle" ∧ yX12_leaks.cls ≠ "java/lang/invoke/VarHandle" ∧ (parseMethodDescriptor yX12_leaks.desc).map (fun d => d.parameters.length) = some 1 := by decide +kernel
theorem hd138 : yX11_enter.cls = RX11 ∧ yX11_enter.cls ≠ "java/lang/invoke/MethodHandle" ∧ yX11_enter.cls ≠ "java/lang/invoke/VarHandle" ∧ (parseMethodDescriptor yX11_enter.desc).map (fun d => d.parameters.length) = some 1 := by decide +kernel
theorem hd139 : yL_enter.cls ≠ "java/lang/invoke/MethodHandle" ∧ yL_enter.cls ≠ "java/lang/invoke/VarHandle" ∧ (parseMethodDescriptor yL_enter.desc).map (fun d => d.parameters.length) = some 3 := by decide +kernel
theorem hd140 : yX12_enter.cls = RX12 ∧ yX12_enter.cls ≠ "java/lang/invoke/MethodHandle" ∧ yX12_enter.cls ≠ "java/lang/invoke/VarHandle" ∧ (parseMethodDescriptor yX12_enter.desc).map (fun d => d.parameters.length) = some 1 := by decide +kernel
theorem hd141 : yX11_result.cls = RX11 ∧ yX11_result.cls ≠ "java/lang/invoke/MethodHandle" ∧ yX11_result.cls ≠ "java/lang/invoke/VarHandle" ∧ (parseMethodDescriptor yX11_result.desc).map (fun d => d.parameters.length) = some 1 := by decide +kernel
theorem hd142 : yL_result.cls ≠ "java/lang/invoke/MethodHandle" ∧ yL_result.cls ≠ "java/lang/invoke/VarHandle" ∧ (parseMethodDescriptor yL_result.desc).map (fun d => d.parameters.length) = some 3 := by decide +kernel
theorem hd143 : yX12_result.cls = RX12 ∧ yX12_result.cls ≠ "java/lang/invoke/MethodHandle" ∧ yX12_result.cls ≠ "java/lang/invoke/VarHandle" ∧ (parseMethodDescriptor yX12_result.desc).map (fun d => d.parameters.length) = some 1 := by decide +kernel
theorem hd144 : yX11_ranked.cls = RX11 ∧ yX11_ranked.cls ≠ "java/lang/invoke/MethodHandle" ∧ yX11_ranked.cls ≠ "java/lang/invoke/VarHandle" ∧ (parseMethodDescriptor yX11_ranked.desc).map (fun d => d.parameters.length) = some 2 := by decide +kernel
theorem hd145 : yX12_ranked.cls = RX12 ∧ yX12_ranked.cls ≠ "java/lang/invoke/MethodHandle" ∧ yX12_ranked.cls ≠ "java/lang/invoke/VarHandle" ∧ (parseMethodDescriptor yX12_ranked.desc).map (fun d => d.parameters.length) = some 2 := by decide +kernel
theorem hd146 : yX11_count.cls = RX11 ∧ yX11_count.cls ≠ "java/lang/invoke/MethodHandle" ∧ yX11_count.cls ≠ "java/lang/invoke/VarHandle" ∧ (parseMethodDescriptor yX11_count.desc).map (fun d => d.parameters.length) = some 1 := by decide +kernel
theorem hd147 : yX12_count.cls = RX12 ∧ yX12_count.cls ≠ "java/lang/invoke/MethodHandle" ∧ yX12_count.cls ≠ "java/lang/invoke/VarHandle" ∧ (parseMethodDescriptor yX12_count.desc).map (fun d => d.parameters.length) = some 1 := by decide +kernel
theorem hd148 : yX11_init.cls ≠ "java/lang/invoke/MethodHandle" ∧ yX11_init.cls ≠ "java/lang/invoke/VarHandle" ∧ (parseMethodDescriptor yX11_init.desc).map (fun d => d.parameters.length) = some 0 := by decide +kernel
theorem hd149 : yX12_init.cls ≠ "java/lang/invoke/MethodHandle" ∧ yX12_init.cls ≠ "java/lang/invoke/VarHandle" ∧ (parseMethodDescriptor yX12_init.desc).map (fun d => d.parameters.length) = some 0 := by decide +kernel
