theorem fm_816 : Cond.initialized RL ∈ fz_WA := fz_in (fz_tin 0 (by decide +kernel)) (by decide +kernel)
theorem fm_817 : Cond.methodLink RL 135 yL_add ∈ fz_WA := fz_in (fz_tin 489 (by decide +kernel)) (by decide +kernel)
theorem fm_818 : Cond.static yL_add ∈ fz_WA := fz_in (fz_tin 490 (by decide +kernel)) (by decide +kernel)
theorem fm_819 : Cond.code yX10_add cX10_add 6 (some .int) ∈ fz_WA := fz_in (fz_tin 1642 (by decide +kernel)) (by decide +kernel)
theorem fm_820 : Cond.methodLink RL 140 yX10_add ∈ fz_WA := fz_in (fz_tin 1639 (by decide +kernel)) (by decide +kernel)
theorem fm_821 : Cond.instanceMethod yX10_add ∈ fz_WA := fz_in (fz_tin 1640 (by decide +kernel)) (by decide +kernel)
theorem fm_822 : Cond.selects RX10 yX10_add yX10_add ∈ fz_WA := fz_in (fz_tin 1641 (by decide +kernel)) (by decide +kernel)
theorem fm_823 : Cond.code yX10_thrown cX10_thrown 1 (some .int) ∈ fz_WA := fz_in (fz_tin 1638 (by decide +kernel)) (by decide +kernel)
theorem fm_824 : Cond.methodLink RL 141 yX10_thrown ∈ fz_WA := fz_in (fz_tin 1635 (by decide +kernel)) (by decide +kernel)
theorem fm_825 : Cond.instanceMethod yX10_thrown ∈ fz_WA := fz_in (fz_tin 1636 (by decide +kernel)) (by decide +kernel)
theorem fm_826 : Cond.selects RX10 yX10_thrown yX10_thrown ∈ fz_WA := fz_in (fz_tin 1637 (by decide +kernel)) (by decide +kernel)
theorem fm_827 : Cond.methodLink RL 144 yL_remove ∈ fz_WA := fz_in (fz_tin 649 (by decide +kernel)) (by decide +kernel)
theorem fm_828 : Cond.static yL_remove ∈ fz_WA := fz_in (fz_tin 650 (by decide +kernel)) (by decide +kernel)
theorem fm_829 : Cond.code yX10_remove cX10_remove 4 (some .int) ∈ fz_WA := fz_in (fz_tin 1679 (by decide +kernel)) (by decide +kernel)
theorem fm_830 : Cond.methodLink RL 147 yX10_remove ∈ fz_WA := fz_in (fz_tin 1676 (by decide +kernel)) (by decide +kernel)
theorem fm_831 : Cond.instanceMethod yX10_remove ∈ fz_WA := fz_in (fz_tin 1677 (by decide +kernel)) (by decide +kernel)
theorem fm_832 : Cond.selects RX10 yX10_remove yX10_remove ∈ fz_WA := fz_in (fz_tin 1678 (by decide +kernel)) (by decide +kernel)
theorem fm_833 : Cond.methodLink RL 148 yL_move ∈ fz_WA := fz_in (fz_tin 689 (by decide +kernel)) (by decide +kernel)
theorem fm_834 : Cond.static yL_move ∈ fz_WA := fz_in (fz_tin 690 (by decide +kernel)) (by decide +kernel)
theorem fm_835 : Cond.code yX10_move cX10_move 4 (some .int) ∈ fz_WA := fz_in (fz_tin 1719 (by decide +kernel)) (by decide +kernel)
theorem fm_836 : Cond.methodLink RL 151 yX10_move ∈ fz_WA := fz_in (fz_tin 1716 (by decide +kernel)) (by decide +kernel)
theorem fm_837 : Cond.instanceMethod yX10_move ∈ fz_WA := fz_in (fz_tin 1717 (by decide +kernel)) (by decide +kernel)
theorem fm_838 : Cond.selects RX10 yX10_move yX10_move ∈ fz_WA := fz_in (fz_tin 1718 (by decide +kernel)) (by decide +kernel)
theorem fm_839 : Cond.methodLink RL 152 yL_node ∈ fz_WA := fz_in (fz_tin 699 (by decide +kernel)) (by decide +kernel)
theorem fm_840 : Cond.static yL_node ∈ fz_WA := fz_in (fz_tin 700 (by decide +kernel)) (by decide +kernel)
theorem fm_841 : Cond.code yX10_node cX10_node 3 (some .int) ∈ fz_WA := fz_in (fz_tin 1723 (by decide +kernel)) (by decide +kernel)
theorem fm_842 : Cond.methodLink RL 154 yX10_node ∈ fz_WA := fz_in (fz_tin 1720 (by decide +kernel)) (by decide +kernel)
theorem fm_843 : Cond.instanceMethod yX10_node ∈ fz_WA := fz_in (fz_tin 1721 (by decide +kernel)) (by decide +kernel)
theorem fm_844 : Cond.selects RX10 yX10_node yX10_node ∈ fz_WA := fz_in (fz_tin 1722 (by decide +kernel)) (by decide +kernel)
theorem fm_845 : Cond.methodLink RL 155 yL_child ∈ fz_WA := fz_in (fz_tin 723 (by decide +kernel)) (by decide +kernel)
theorem fm_846 : Cond.static yL_child ∈ fz_WA := fz_in (fz_tin 724 (by decide +kernel)) (by decide +kernel)
theorem fm_847 : Cond.code yX10_child cX10_child 5 (some .int) ∈ fz_WA := fz_in (fz_tin 1758 (by decide +kernel)) (by decide +kernel)
theorem fm_848 : Cond.methodLink RL 157 yX10_child ∈ fz_WA := fz_in (fz_tin 1755 (by decide +kernel)) (by decide +kernel)
theorem fm_849 : Cond.instanceMethod yX10_child ∈ fz_WA := fz_in (fz_tin 1756 (by decide +kernel)) (by decide +kernel)
theorem fm_850 : Cond.selects RX10 yX10_child yX10_child ∈ fz_WA := fz_in (fz_tin 1757 (by decide +kernel)) (by decide +kernel)
theorem fm_851 : Cond.methodLink RL 158 yL_setRule ∈ fz_WA := fz_in (fz_tin 735 (by decide +kernel)) (by decide +kernel)
theorem fm_852 : Cond.static yL_setRule ∈ fz_WA := fz_in (fz_tin 736 (by decide +kernel)) (by decide +kernel)
theorem fm_853 : Cond.code yX10_setRule cX10_setRule 6 (some .int) ∈ fz_WA := fz_in (fz_tin 1762 (by decide +kernel)) (by decide +kernel)
theorem fm_854 : Cond.methodLink RL 161 yX10_setRule ∈ fz_WA := fz_in (fz_tin 1759 (by decide +kernel)) (by decide +kernel)
theorem fm_855 : Cond.instanceMethod yX10_setRule ∈ fz_WA := fz_in (fz_tin 1760 (by decide +kernel)) (by decide +kernel)
theorem fm_856 : Cond.selects RX10 yX10_setRule yX10_setRule ∈ fz_WA := fz_in (fz_tin 1761 (by decide +kernel)) (by decide +kernel)
theorem fm_857 : Cond.methodLink RL 162 yL_setPage ∈ fz_WA := fz_in (fz_tin 743 (by decide +kernel)) (by decide +kernel)
theorem fm_858 : Cond.static yL_setPage ∈ fz_WA := fz_in (fz_tin 744 (by decide +kernel)) (by decide +kernel)
theorem fm_859 : Cond.code yX10_setPage cX10_setPage 5 (some .int) ∈ fz_WA := fz_in (fz_tin 1766 (by decide +kernel)) (by decide +kernel)
theorem fm_860 : Cond.methodLink RL 164 yX10_setPage ∈ fz_WA := fz_in (fz_tin 1763 (by decide +kernel)) (by decide +kernel)
theorem fm_861 : Cond.instanceMethod yX10_setPage ∈ fz_WA := fz_in (fz_tin 1764 (by decide +kernel)) (by decide +kernel)
theorem fm_862 : Cond.selects RX10 yX10_setPage yX10_setPage ∈ fz_WA := fz_in (fz_tin 1765 (by decide +kernel)) (by decide +kernel)
theorem fm_863 : Cond.methodLink RL 165 yL_restriction ∈ fz_WA := fz_in (fz_tin 752 (by decide +kernel)) (by decide +kernel)
theorem fm_864 : Cond.static yL_restriction ∈ fz_WA := fz_in (fz_tin 753 (by decide +kernel)) (by decide +kernel)
theorem fm_865 : Cond.code yX10_restriction cX10_restriction 4 (some .int) ∈ fz_WA := fz_in (fz_tin 1770 (by decide +kernel)) (by decide +kernel)
theorem fm_866 : Cond.methodLink RL 167 yX10_restriction ∈ fz_WA := fz_in (fz_tin 1767 (by decide +kernel)) (by decide +kernel)
theorem fm_867 : Cond.instanceMethod yX10_restriction ∈ fz_WA := fz_in (fz_tin 1768 (by decide +kernel)) (by decide +kernel)
theorem fm_868 : Cond.selects RX10 yX10_restriction yX10_restriction ∈ fz_WA := fz_in (fz_tin 1769 (by decide +kernel)) (by decide +kernel)
theorem fm_869 : Cond.methodLink RL 168 yL_openPages ∈ fz_WA := fz_in (fz_tin 762 (by decide +kernel)) (by decide +kernel)
theorem fm_870 : Cond.static yL_openPages ∈ fz_WA := fz_in (fz_tin 763 (by decide +kernel)) (by decide +kernel)
theorem fm_871 : Cond.code yX10_openPages cX10_openPages 3 (some .int) ∈ fz_WA := fz_in (fz_tin 1783 (by decide +kernel)) (by decide +kernel)
theorem fm_872 : Cond.methodLink RL 170 yX10_openPages ∈ fz_WA := fz_in (fz_tin 1780 (by decide +kernel)) (by decide +kernel)
theorem fm_873 : Cond.instanceMethod yX10_openPages ∈ fz_WA := fz_in (fz_tin 1781 (by decide +kernel)) (by decide +kernel)
theorem fm_874 : Cond.selects RX10 yX10_openPages yX10_openPages ∈ fz_WA := fz_in (fz_tin 1782 (by decide +kernel)) (by decide +kernel)
theorem fm_875 : Cond.methodLink RL 171 yL_firstDay ∈ fz_WA := fz_in (fz_tin 774 (by decide +kernel)) (by decide +kernel)
theorem fm_876 : Cond.static yL_firstDay ∈ fz_WA := fz_in (fz_tin 775 (by decide +kernel)) (by decide +kernel)
theorem fm_877 : Cond.code yX10_firstDay cX10_firstDay 5 (some .int) ∈ fz_WA := fz_in (fz_tin 1795 (by decide +kernel)) (by decide +kernel)
theorem fm_878 : Cond.methodLink RL 173 yX10_firstDay ∈ fz_WA := fz_in (fz_tin 1792 (by decide +kernel)) (by decide +kernel)
theorem fm_879 : Cond.instanceMethod yX10_firstDay ∈ fz_WA := fz_in (fz_tin 1793 (by decide +kernel)) (by decide +kernel)
theorem fm_880 : Cond.selects RX10 yX10_firstDay yX10_firstDay ∈ fz_WA := fz_in (fz_tin 1794 (by decide +kernel)) (by decide +kernel)
theorem fm_881 : Cond.methodLink RL 174 yL_addContainer ∈ fz_WA := fz_in (fz_tin 815 (by decide +kernel)) (by decide +kernel)
theorem fm_882 : Cond.static yL_addContainer ∈ fz_WA := fz_in (fz_tin 816 (by decide +kernel)) (by decide +kernel)
theorem fm_883 : Cond.code yX10_addContainer cX10_addContainer 2 (some .int) ∈ fz_WA := fz_in (fz_tin 1825 (by decide +kernel)) (by decide +kernel)
theorem fm_884 : Cond.methodLink RL 176 yX10_addContainer ∈ fz_WA := fz_in (fz_tin 1822 (by decide +kernel)) (by decide +kernel)
theorem fm_885 : Cond.instanceMethod yX10_addContainer ∈ fz_WA := fz_in (fz_tin 1823 (by decide +kernel)) (by decide +kernel)
theorem fm_886 : Cond.selects RX10 yX10_addContainer yX10_addContainer ∈ fz_WA := fz_in (fz_tin 1824 (by decide +kernel)) (by decide +kernel)
theorem fm_887 : Cond.methodLink RL 177 yL_put ∈ fz_WA := fz_in (fz_tin 835 (by decide +kernel)) (by decide +kernel)
theorem fm_888 : Cond.static yL_put ∈ fz_WA := fz_in (fz_tin 836 (by decide +kernel)) (by decide +kernel)
theorem fm_889 : Cond.code yX10_put cX10_put 4 (some .int) ∈ fz_WA := fz_in (fz_tin 1844 (by decide +kernel)) (by decide +kernel)
theorem fm_890 : Cond.methodLink RL 179 yX10_put ∈ fz_WA := fz_in (fz_tin 1841 (by decide +kernel)) (by decide +kernel)
theorem fm_891 : Cond.instanceMethod yX10_put ∈ fz_WA := fz_in (fz_tin 1842 (by decide +kernel)) (by decide +kernel)
theorem fm_892 : Cond.selects RX10 yX10_put yX10_put ∈ fz_WA := fz_in (fz_tin 1843 (by decide +kernel)) (by decide +kernel)
theorem fm_893 : Cond.methodLink RL 180 yL_takeOut ∈ fz_WA := fz_in (fz_tin 886 (by decide +kernel)) (by decide +kernel)
theorem fm_894 : Cond.static yL_takeOut ∈ fz_WA := fz_in (fz_tin 887 (by decide +kernel)) (by decide +kernel)
theorem fm_895 : Cond.code yX10_takeOut cX10_takeOut 3 (some .int) ∈ fz_WA := fz_in (fz_tin 1860 (by decide +kernel)) (by decide +kernel)
theorem fm_896 : Cond.methodLink RL 182 yX10_takeOut ∈ fz_WA := fz_in (fz_tin 1857 (by decide +kernel)) (by decide +kernel)
theorem fm_897 : Cond.instanceMethod yX10_takeOut ∈ fz_WA := fz_in (fz_tin 1858 (by decide +kernel)) (by decide +kernel)
theorem fm_898 : Cond.selects RX10 yX10_takeOut yX10_takeOut ∈ fz_WA := fz_in (fz_tin 1859 (by decide +kernel)) (by decide +kernel)
theorem fm_899 : Cond.methodLink RL 183 yL_split ∈ fz_WA := fz_in (fz_tin 895 (by decide +kernel)) (by decide +kernel)
theorem fm_900 : Cond.static yL_split ∈ fz_WA := fz_in (fz_tin 896 (by decide +kernel)) (by decide +kernel)
theorem fm_901 : Cond.code yX10_split cX10_split 6 (some .int) ∈ fz_WA := fz_in (fz_tin 1864 (by decide +kernel)) (by decide +kernel)
theorem fm_902 : Cond.methodLink RL 185 yX10_split ∈ fz_WA := fz_in (fz_tin 1861 (by decide +kernel)) (by decide +kernel)
theorem fm_903 : Cond.instanceMethod yX10_split ∈ fz_WA := fz_in (fz_tin 1862 (by decide +kernel)) (by decide +kernel)
theorem fm_904 : Cond.selects RX10 yX10_split yX10_split ∈ fz_WA := fz_in (fz_tin 1863 (by decide +kernel)) (by decide +kernel)
theorem fm_905 : Cond.methodLink RL 186 yL_merge ∈ fz_WA := fz_in (fz_tin 919 (by decide +kernel)) (by decide +kernel)
theorem fm_906 : Cond.static yL_merge ∈ fz_WA := fz_in (fz_tin 920 (by decide +kernel)) (by decide +kernel)
theorem fm_907 : Cond.code yX10_merge cX10_merge 4 (some .int) ∈ fz_WA := fz_in (fz_tin 1872 (by decide +kernel)) (by decide +kernel)
theorem fm_908 : Cond.methodLink RL 188 yX10_merge ∈ fz_WA := fz_in (fz_tin 1869 (by decide +kernel)) (by decide +kernel)
theorem fm_909 : Cond.instanceMethod yX10_merge ∈ fz_WA := fz_in (fz_tin 1870 (by decide +kernel)) (by decide +kernel)
theorem fm_910 : Cond.selects RX10 yX10_merge yX10_merge ∈ fz_WA := fz_in (fz_tin 1871 (by decide +kernel)) (by decide +kernel)
theorem fm_911 : Cond.methodLink RL 189 yL_container ∈ fz_WA := fz_in (fz_tin 931 (by decide +kernel)) (by decide +kernel)
theorem fm_912 : Cond.static yL_container ∈ fz_WA := fz_in (fz_tin 932 (by decide +kernel)) (by decide +kernel)
theorem fm_913 : Cond.code yX10_container cX10_container 3 (some .int) ∈ fz_WA := fz_in (fz_tin 1876 (by decide +kernel)) (by decide +kernel)
theorem fm_914 : Cond.methodLink RL 191 yX10_container ∈ fz_WA := fz_in (fz_tin 1873 (by decide +kernel)) (by decide +kernel)
theorem fm_915 : Cond.instanceMethod yX10_container ∈ fz_WA := fz_in (fz_tin 1874 (by decide +kernel)) (by decide +kernel)
theorem fm_916 : Cond.selects RX10 yX10_container yX10_container ∈ fz_WA := fz_in (fz_tin 1875 (by decide +kernel)) (by decide +kernel)
theorem fm_917 : Cond.methodLink RL 192 yL_unitAt ∈ fz_WA := fz_in (fz_tin 938 (by decide +kernel)) (by decide +kernel)
theorem fm_918 : Cond.static yL_unitAt ∈ fz_WA := fz_in (fz_tin 939 (by decide +kernel)) (by decide +kernel)
theorem fm_919 : Cond.code yX10_unitAt cX10_unitAt 3 (some .int) ∈ fz_WA := fz_in (fz_tin 1880 (by decide +kernel)) (by decide +kernel)
theorem fm_920 : Cond.methodLink RL 194 yX10_unitAt ∈ fz_WA := fz_in (fz_tin 1877 (by decide +kernel)) (by decide +kernel)
theorem fm_921 : Cond.instanceMethod yX10_unitAt ∈ fz_WA := fz_in (fz_tin 1878 (by decide +kernel)) (by decide +kernel)
theorem fm_922 : Cond.selects RX10 yX10_unitAt yX10_unitAt ∈ fz_WA := fz_in (fz_tin 1879 (by decide +kernel)) (by decide +kernel)
theorem fm_923 : Cond.methodLink RL 198 yL_copy ∈ fz_WA := fz_in (fz_tin 957 (by decide +kernel)) (by decide +kernel)
theorem fm_924 : Cond.static yL_copy ∈ fz_WA := fz_in (fz_tin 958 (by decide +kernel)) (by decide +kernel)
theorem fm_925 : Cond.code yX10_copy cX10_copy 5 (some .int) ∈ fz_WA := fz_in (fz_tin 1810 (by decide +kernel)) (by decide +kernel)
theorem fm_926 : Cond.methodLink RL 200 yX10_copy ∈ fz_WA := fz_in (fz_tin 1807 (by decide +kernel)) (by decide +kernel)
theorem fm_927 : Cond.instanceMethod yX10_copy ∈ fz_WA := fz_in (fz_tin 1808 (by decide +kernel)) (by decide +kernel)
theorem fm_928 : Cond.selects RX10 yX10_copy yX10_copy ∈ fz_WA := fz_in (fz_tin 1809 (by decide +kernel)) (by decide +kernel)
theorem fm_929 : Cond.methodLink RL 201 yL_copyPart ∈ fz_WA := fz_in (fz_tin 971 (by decide +kernel)) (by decide +kernel)
theorem fm_930 : Cond.static yL_copyPart ∈ fz_WA := fz_in (fz_tin 972 (by decide +kernel)) (by decide +kernel)
theorem fm_931 : Cond.code yX10_copyPart cX10_copyPart 5 (some .int) ∈ fz_WA := fz_in (fz_tin 1818 (by decide +kernel)) (by decide +kernel)
theorem fm_932 : Cond.methodLink RL 203 yX10_copyPart ∈ fz_WA := fz_in (fz_tin 1815 (by decide +kernel)) (by decide +kernel)
theorem fm_933 : Cond.instanceMethod yX10_copyPart ∈ fz_WA := fz_in (fz_tin 1816 (by decide +kernel)) (by decide +kernel)
theorem fm_934 : Cond.selects RX10 yX10_copyPart yX10_copyPart ∈ fz_WA := fz_in (fz_tin 1817 (by decide +kernel)) (by decide +kernel)
theorem fm_935 : Cond.methodLink RL 204 yL_setSeats ∈ fz_WA := fz_in (fz_tin 989 (by decide +kernel)) (by decide +kernel)
theorem fm_936 : Cond.static yL_setSeats ∈ fz_WA := fz_in (fz_tin 990 (by decide +kernel)) (by decide +kernel)
theorem fm_937 : Cond.code yX10_setSeats cX10_setSeats 3 (some .int) ∈ fz_WA := fz_in (fz_tin 1888 (by decide +kernel)) (by decide +kernel)
theorem fm_938 : Cond.methodLink RL 206 yX10_setSeats ∈ fz_WA := fz_in (fz_tin 1885 (by decide +kernel)) (by decide +kernel)
theorem fm_939 : Cond.instanceMethod yX10_setSeats ∈ fz_WA := fz_in (fz_tin 1886 (by decide +kernel)) (by decide +kernel)
theorem fm_940 : Cond.selects RX10 yX10_setSeats yX10_setSeats ∈ fz_WA := fz_in (fz_tin 1887 (by decide +kernel)) (by decide +kernel)
theorem fm_941 : Cond.methodLink RL 207 yL_request ∈ fz_WA := fz_in (fz_tin 997 (by decide +kernel)) (by decide +kernel)
theorem fm_942 : Cond.static yL_request ∈ fz_WA := fz_in (fz_tin 998 (by decide +kernel)) (by decide +kernel)
theorem fm_943 : Cond.code yX10_request cX10_request 6 (some .int) ∈ fz_WA := fz_in (fz_tin 1892 (by decide +kernel)) (by decide +kernel)
theorem fm_944 : Cond.methodLink RL 209 yX10_request ∈ fz_WA := fz_in (fz_tin 1889 (by decide +kernel)) (by decide +kernel)
theorem fm_945 : Cond.instanceMethod yX10_request ∈ fz_WA := fz_in (fz_tin 1890 (by decide +kernel)) (by decide +kernel)
theorem fm_946 : Cond.selects RX10 yX10_request yX10_request ∈ fz_WA := fz_in (fz_tin 1891 (by decide +kernel)) (by decide +kernel)
theorem fm_947 : Cond.methodLink RL 210 yL_requestPart ∈ fz_WA := fz_in (fz_tin 1073 (by decide +kernel)) (by decide +kernel)
theorem fm_948 : Cond.static yL_requestPart ∈ fz_WA := fz_in (fz_tin 1074 (by decide +kernel)) (by decide +kernel)
theorem fm_949 : Cond.code yX10_requestPart cX10_requestPart 3 (some .int) ∈ fz_WA := fz_in (fz_tin 1923 (by decide +kernel)) (by decide +kernel)
theorem fm_950 : Cond.methodLink RL 212 yX10_requestPart ∈ fz_WA := fz_in (fz_tin 1920 (by decide +kernel)) (by decide +kernel)
theorem fm_951 : Cond.instanceMethod yX10_requestPart ∈ fz_WA := fz_in (fz_tin 1921 (by decide +kernel)) (by decide +kernel)
theorem fm_952 : Cond.selects RX10 yX10_requestPart yX10_requestPart ∈ fz_WA := fz_in (fz_tin 1922 (by decide +kernel)) (by decide +kernel)
theorem fm_953 : Cond.methodLink RL 213 yL_cancel ∈ fz_WA := fz_in (fz_tin 1090 (by decide +kernel)) (by decide +kernel)
theorem fm_954 : Cond.static yL_cancel ∈ fz_WA := fz_in (fz_tin 1091 (by decide +kernel)) (by decide +kernel)
theorem fm_955 : Cond.code yX10_cancel cX10_cancel 2 (some .int) ∈ fz_WA := fz_in (fz_tin 1931 (by decide +kernel)) (by decide +kernel)
theorem fm_956 : Cond.methodLink RL 215 yX10_cancel ∈ fz_WA := fz_in (fz_tin 1928 (by decide +kernel)) (by decide +kernel)
theorem fm_957 : Cond.instanceMethod yX10_cancel ∈ fz_WA := fz_in (fz_tin 1929 (by decide +kernel)) (by decide +kernel)
theorem fm_958 : Cond.selects RX10 yX10_cancel yX10_cancel ∈ fz_WA := fz_in (fz_tin 1930 (by decide +kernel)) (by decide +kernel)
theorem fm_959 : Cond.code yX9_review cX9_review 3 (some .int) ∈ fz_WA := fz_in (fz_tin 386 (by decide +kernel)) (by decide +kernel)
theorem fm_960 : Cond.methodLink RL 216 yX9_review ∈ fz_WA := fz_in (fz_tin 383 (by decide +kernel)) (by decide +kernel)
theorem fm_961 : Cond.instanceMethod yX9_review ∈ fz_WA := fz_in (fz_tin 384 (by decide +kernel)) (by decide +kernel)
theorem fm_962 : Cond.selects RX9 yX9_review yX9_review ∈ fz_WA := fz_in (fz_tin 385 (by decide +kernel)) (by decide +kernel)
theorem fm_963 : Cond.code yX10_review cX10_review 5 (some .int) ∈ fz_WA := fz_in (fz_tin 1935 (by decide +kernel)) (by decide +kernel)
theorem fm_964 : Cond.methodLink RL 219 yX10_review ∈ fz_WA := fz_in (fz_tin 1932 (by decide +kernel)) (by decide +kernel)
theorem fm_965 : Cond.instanceMethod yX10_review ∈ fz_WA := fz_in (fz_tin 1933 (by decide +kernel)) (by decide +kernel)
theorem fm_966 : Cond.selects RX10 yX10_review yX10_review ∈ fz_WA := fz_in (fz_tin 1934 (by decide +kernel)) (by decide +kernel)
theorem fm_967 : Cond.methodLink RL 220 yL_account ∈ fz_WA := fz_in (fz_tin 1097 (by decide +kernel)) (by decide +kernel)
theorem fm_968 : Cond.static yL_account ∈ fz_WA := fz_in (fz_tin 1098 (by decide +kernel)) (by decide +kernel)
theorem fm_969 : Cond.code yX10_account cX10_account 2 (some .int) ∈ fz_WA := fz_in (fz_tin 1939 (by decide +kernel)) (by decide +kernel)
theorem fm_970 : Cond.methodLink RL 222 yX10_account ∈ fz_WA := fz_in (fz_tin 1936 (by decide +kernel)) (by decide +kernel)
theorem fm_971 : Cond.instanceMethod yX10_account ∈ fz_WA := fz_in (fz_tin 1937 (by decide +kernel)) (by decide +kernel)
theorem fm_972 : Cond.selects RX10 yX10_account yX10_account ∈ fz_WA := fz_in (fz_tin 1938 (by decide +kernel)) (by decide +kernel)
theorem fm_973 : Cond.methodLink RL 223 yL_dayCount ∈ fz_WA := fz_in (fz_tin 1123 (by decide +kernel)) (by decide +kernel)
theorem fm_974 : Cond.static yL_dayCount ∈ fz_WA := fz_in (fz_tin 1124 (by decide +kernel)) (by decide +kernel)
theorem fm_975 : Cond.code yX10_dayCount cX10_dayCount 3 (some .int) ∈ fz_WA := fz_in (fz_tin 1959 (by decide +kernel)) (by decide +kernel)
theorem fm_976 : Cond.methodLink RL 225 yX10_dayCount ∈ fz_WA := fz_in (fz_tin 1956 (by decide +kernel)) (by decide +kernel)
theorem fm_977 : Cond.instanceMethod yX10_dayCount ∈ fz_WA := fz_in (fz_tin 1957 (by decide +kernel)) (by decide +kernel)
theorem fm_978 : Cond.selects RX10 yX10_dayCount yX10_dayCount ∈ fz_WA := fz_in (fz_tin 1958 (by decide +kernel)) (by decide +kernel)
theorem fm_979 : Cond.methodLink RL 226 yL_openShare ∈ fz_WA := fz_in (fz_tin 1143 (by decide +kernel)) (by decide +kernel)
theorem fm_980 : Cond.static yL_openShare ∈ fz_WA := fz_in (fz_tin 1144 (by decide +kernel)) (by decide +kernel)
theorem fm_981 : Cond.code yX10_openShare cX10_openShare 2 (some .double) ∈ fz_WA := fz_in (fz_tin 1971 (by decide +kernel)) (by decide +kernel)
theorem fm_982 : Cond.methodLink RL 229 yX10_openShare ∈ fz_WA := fz_in (fz_tin 1968 (by decide +kernel)) (by decide +kernel)
theorem fm_983 : Cond.instanceMethod yX10_openShare ∈ fz_WA := fz_in (fz_tin 1969 (by decide +kernel)) (by decide +kernel)
theorem fm_984 : Cond.selects RX10 yX10_openShare yX10_openShare ∈ fz_WA := fz_in (fz_tin 1970 (by decide +kernel)) (by decide +kernel)
theorem fm_985 : Cond.methodLink RL 233 yL_feed ∈ fz_WA := fz_in (fz_tin 1175 (by decide +kernel)) (by decide +kernel)
theorem fm_986 : Cond.static yL_feed ∈ fz_WA := fz_in (fz_tin 1176 (by decide +kernel)) (by decide +kernel)
theorem fm_987 : Cond.code yX10_feed cX10_feed 2 (some .int) ∈ fz_WA := fz_in (fz_tin 1979 (by decide +kernel)) (by decide +kernel)
theorem fm_988 : Cond.methodLink RL 236 yX10_feed ∈ fz_WA := fz_in (fz_tin 1976 (by decide +kernel)) (by decide +kernel)
theorem fm_989 : Cond.instanceMethod yX10_feed ∈ fz_WA := fz_in (fz_tin 1977 (by decide +kernel)) (by decide +kernel)
theorem fm_990 : Cond.selects RX10 yX10_feed yX10_feed ∈ fz_WA := fz_in (fz_tin 1978 (by decide +kernel)) (by decide +kernel)
theorem fm_991 : Cond.methodLink RL 237 yL_read ∈ fz_WA := fz_in (fz_tin 1187 (by decide +kernel)) (by decide +kernel)
theorem fm_992 : Cond.static yL_read ∈ fz_WA := fz_in (fz_tin 1188 (by decide +kernel)) (by decide +kernel)
theorem fm_993 : Cond.code yX10_read cX10_read 2 (some .int) ∈ fz_WA := fz_in (fz_tin 1983 (by decide +kernel)) (by decide +kernel)
theorem fm_994 : Cond.methodLink RL 239 yX10_read ∈ fz_WA := fz_in (fz_tin 1980 (by decide +kernel)) (by decide +kernel)
theorem fm_995 : Cond.instanceMethod yX10_read ∈ fz_WA := fz_in (fz_tin 1981 (by decide +kernel)) (by decide +kernel)
theorem fm_996 : Cond.selects RX10 yX10_read yX10_read ∈ fz_WA := fz_in (fz_tin 1982 (by decide +kernel)) (by decide +kernel)
theorem fm_997 : Cond.methodLink RL 240 yL_write ∈ fz_WA := fz_in (fz_tin 1227 (by decide +kernel)) (by decide +kernel)
theorem fm_998 : Cond.static yL_write ∈ fz_WA := fz_in (fz_tin 1228 (by decide +kernel)) (by decide +kernel)
theorem fm_999 : Cond.code yX10_write cX10_write 2 (some .int) ∈ fz_WA := fz_in (fz_tin 2007 (by decide +kernel)) (by decide +kernel)
theorem fm_1000 : Cond.methodLink RL 242 yX10_write ∈ fz_WA := fz_in (fz_tin 2004 (by decide +kernel)) (by decide +kernel)
theorem fm_1001 : Cond.instanceMethod yX10_write ∈ fz_WA := fz_in (fz_tin 2005 (by decide +kernel)) (by decide +kernel)
theorem fm_1002 : Cond.selects RX10 yX10_write yX10_write ∈ fz_WA := fz_in (fz_tin 2006 (by decide +kernel)) (by decide +kernel)
theorem fm_1003 : Cond.methodLink RL 243 yL_text ∈ fz_WA := fz_in (fz_tin 1518 (by decide +kernel)) (by decide +kernel)
theorem fm_1004 : Cond.static yL_text ∈ fz_WA := fz_in (fz_tin 1519 (by decide +kernel)) (by decide +kernel)
theorem fm_1005 : Cond.code yX10_text cX10_text 2 (some .char) ∈ fz_WA := fz_in (fz_tin 2023 (by decide +kernel)) (by decide +kernel)
theorem fm_1006 : Cond.methodLink RL 245 yX10_text ∈ fz_WA := fz_in (fz_tin 2020 (by decide +kernel)) (by decide +kernel)
theorem fm_1007 : Cond.instanceMethod yX10_text ∈ fz_WA := fz_in (fz_tin 2021 (by decide +kernel)) (by decide +kernel)
theorem fm_1008 : Cond.selects RX10 yX10_text yX10_text ∈ fz_WA := fz_in (fz_tin 2022 (by decide +kernel)) (by decide +kernel)
theorem fm_1009 : Cond.methodLink RL 246 yL_undo ∈ fz_WA := fz_in (fz_tin 1536 (by decide +kernel)) (by decide +kernel)
theorem fm_1010 : Cond.static yL_undo ∈ fz_WA := fz_in (fz_tin 1537 (by decide +kernel)) (by decide +kernel)
theorem fm_1011 : Cond.code yX10_undo cX10_undo 1 (some .int) ∈ fz_WA := fz_in (fz_tin 2027 (by decide +kernel)) (by decide +kernel)
theorem fm_1012 : Cond.methodLink RL 249 yX10_undo ∈ fz_WA := fz_in (fz_tin 2024 (by decide +kernel)) (by decide +kernel)
theorem fm_1013 : Cond.instanceMethod yX10_undo ∈ fz_WA := fz_in (fz_tin 2025 (by decide +kernel)) (by decide +kernel)
theorem fm_1014 : Cond.selects RX10 yX10_undo yX10_undo ∈ fz_WA := fz_in (fz_tin 2026 (by decide +kernel)) (by decide +kernel)
theorem fm_1015 : Cond.code yX9_save cX9_save 1 (some .int) ∈ fz_WA := fz_in (fz_tin 488 (by decide +kernel)) (by decide +kernel)
theorem fm_1016 : Cond.methodLink RL 250 yX9_save ∈ fz_WA := fz_in (fz_tin 485 (by decide +kernel)) (by decide +kernel)
theorem fm_1017 : Cond.instanceMethod yX9_save ∈ fz_WA := fz_in (fz_tin 486 (by decide +kernel)) (by decide +kernel)
theorem fm_1018 : Cond.selects RX9 yX9_save yX9_save ∈ fz_WA := fz_in (fz_tin 487 (by decide +kernel)) (by decide +kernel)
theorem fm_1019 : Cond.code yX10_save cX10_save 1 (some .int) ∈ fz_WA := fz_in (fz_tin 2031 (by decide +kernel)) (by decide +kernel)
theorem fm_1020 : Cond.methodLink RL 253 yX10_save ∈ fz_WA := fz_in (fz_tin 2028 (by decide +kernel)) (by decide +kernel)
theorem fm_1021 : Cond.instanceMethod yX10_save ∈ fz_WA := fz_in (fz_tin 2029 (by decide +kernel)) (by decide +kernel)
theorem fm_1022 : Cond.selects RX10 yX10_save yX10_save ∈ fz_WA := fz_in (fz_tin 2030 (by decide +kernel)) (by decide +kernel)
theorem fm_1023 : Cond.methodLink RL 254 yL_restore ∈ fz_WA := fz_in (fz_tin 1544 (by decide +kernel)) (by decide +kernel)
theorem fm_1024 : Cond.static yL_restore ∈ fz_WA := fz_in (fz_tin 1545 (by decide +kernel)) (by decide +kernel)
theorem fm_1025 : Cond.code yX10_restore cX10_restore 1 (some .int) ∈ fz_WA := fz_in (fz_tin 2035 (by decide +kernel)) (by decide +kernel)
theorem fm_1026 : Cond.methodLink RL 256 yX10_restore ∈ fz_WA := fz_in (fz_tin 2032 (by decide +kernel)) (by decide +kernel)
theorem fm_1027 : Cond.instanceMethod yX10_restore ∈ fz_WA := fz_in (fz_tin 2033 (by decide +kernel)) (by decide +kernel)
theorem fm_1028 : Cond.selects RX10 yX10_restore yX10_restore ∈ fz_WA := fz_in (fz_tin 2034 (by decide +kernel)) (by decide +kernel)
theorem dX10_thrown_0 : decode cX10_thrown 0 = .ok (.aload_n 0, 1) := by decide +kernel
theorem dX10_thrown_1 : decode cX10_thrown 1 = .ok (.getfield 35, 3) := by decide +kernel
theorem dX10_thrown_4 : decode cX10_thrown 4 = .ok (.ireturn, 1) := by decide +kernel
theorem dL_law_2457 : decode cL_law 2457 = .ok (.iinc 5 6, 3) := by decide +kernel
theorem dL_law_2460 : decode cL_law 2460 = .ok (.goto (-2432), 3) := by decide +kernel
theorem dL_law_28 : decode cL_law 28 = .ok (.iload 5, 2) := by decide +kernel
theorem dL_law_30 : decode cL_law 30 = .ok (.aload_n 0, 1) := by decide +kernel
theorem dL_law_31 : decode cL_law 31 = .ok (.arraylength, 1) := by decide +kernel
theorem dL_law_32 : decode cL_law 32 = .ok (.bipush 6, 2) := by decide +kernel
theorem dL_law_34 : decode cL_law 34 = .ok (.isub, 1) := by decide +kernel
theorem dL_law_35 : decode cL_law 35 = .ok (.if_icmp .gt 2428, 3) := by decide +kernel
theorem dL_law_2463 : decode cL_law 2463 = .ok (.iconst 1, 1) := by decide +kernel
theorem dL_law_2464 : decode cL_law 2464 = .ok (.ireturn, 1) := by decide +kernel
theorem dL_law_204 : decode cL_law 204 = .ok (.aload_n 1, 1) := by decide +kernel
theorem dL_law_205 : decode cL_law 205 = .ok (.aload_n 0, 1) := by decide +kernel
theorem dL_law_206 : decode cL_law 206 = .ok (.iload 5, 2) := by decide +kernel
theorem dL_law_208 : decode cL_law 208 = .ok (.iconst 1, 1) := by decide +kernel
theorem dL_law_209 : decode cL_law 209 = .ok (.iadd, 1) := by decide +kernel
theorem dL_law_210 : decode cL_law 210 = .ok (.iaload, 1) := by decide +kernel
theorem dL_law_211 : decode cL_law 211 = .ok (.aload_n 0, 1) := by decide +kernel
theorem dL_law_212 : decode cL_law 212 = .ok (.iload 5, 2) := by decide +kernel
theorem dL_law_214 : decode cL_law 214 = .ok (.iconst 2, 1) := by decide +kernel
theorem dL_law_215 : decode cL_law 215 = .ok (.iadd, 1) := by decide +kernel
theorem dL_law_216 : decode cL_law 216 = .ok (.iaload, 1) := by decide +kernel
theorem dL_law_217 : decode cL_law 217 = .ok (.aload_n 0, 1) := by decide +kernel
theorem dL_law_218 : decode cL_law 218 = .ok (.iload 5, 2) := by decide +kernel
theorem dL_law_220 : decode cL_law 220 = .ok (.iconst 3, 1) := by decide +kernel
theorem dL_law_221 : decode cL_law 221 = .ok (.iadd, 1) := by decide +kernel
theorem dL_law_222 : decode cL_law 222 = .ok (.iaload, 1) := by decide +kernel
theorem dL_law_223 : decode cL_law 223 = .ok (.aload_n 0, 1) := by decide +kernel
theorem dL_law_224 : decode cL_law 224 = .ok (.iload 5, 2) := by decide +kernel
theorem dL_law_226 : decode cL_law 226 = .ok (.iconst 4, 1) := by decide +kernel
theorem dL_law_227 : decode cL_law 227 = .ok (.iadd, 1) := by decide +kernel
theorem dL_law_228 : decode cL_law 228 = .ok (.iaload, 1) := by decide +kernel
theorem dL_law_229 : decode cL_law 229 = .ok (.aload_n 0, 1) := by decide +kernel
theorem dL_law_230 : decode cL_law 230 = .ok (.iload 5, 2) := by decide +kernel
theorem dL_law_232 : decode cL_law 232 = .ok (.iconst 5, 1) := by decide +kernel
theorem dL_law_233 : decode cL_law 233 = .ok (.iadd, 1) := by decide +kernel
theorem dL_law_234 : decode cL_law 234 = .ok (.iaload, 1) := by decide +kernel
theorem dL_law_235 : decode cL_law 235 = .ok (.aload_n 3, 1) := by decide +kernel
theorem dL_law_236 : decode cL_law 236 = .ok (.invokestatic 135, 3) := by decide +kernel
theorem dL_law_239 : decode cL_law 239 = .ok (.istore 6, 2) := by decide +kernel
theorem dL_law_241 : decode cL_law 241 = .ok (.aload_n 2, 1) := by decide +kernel
theorem dL_law_242 : decode cL_law 242 = .ok (.aload_n 0, 1) := by decide +kernel
theorem dL_law_243 : decode cL_law 243 = .ok (.iload 5, 2) := by decide +kernel
theorem dL_law_245 : decode cL_law 245 = .ok (.iconst 1, 1) := by decide +kernel
theorem dL_law_246 : decode cL_law 246 = .ok (.iadd, 1) := by decide +kernel
theorem dL_law_247 : decode cL_law 247 = .ok (.iaload, 1) := by decide +kernel
theorem dL_law_248 : decode cL_law 248 = .ok (.aload_n 0, 1) := by decide +kernel
theorem dL_law_249 : decode cL_law 249 = .ok (.iload 5, 2) := by decide +kernel
theorem dL_law_251 : decode cL_law 251 = .ok (.iconst 2, 1) := by decide +kernel
theorem dL_law_252 : decode cL_law 252 = .ok (.iadd, 1) := by decide +kernel
theorem dL_law_253 : decode cL_law 253 = .ok (.iaload, 1) := by decide +kernel
theorem dL_law_254 : decode cL_law 254 = .ok (.aload_n 0, 1) := by decide +kernel
theorem dL_law_255 : decode cL_law 255 = .ok (.iload 5, 2) := by decide +kernel
theorem dL_law_257 : decode cL_law 257 = .ok (.iconst 3, 1) := by decide +kernel
theorem dL_law_258 : decode cL_law 258 = .ok (.iadd, 1) := by decide +kernel
theorem dL_law_259 : decode cL_law 259 = .ok (.iaload, 1) := by decide +kernel
theorem dL_law_260 : decode cL_law 260 = .ok (.aload_n 0, 1) := by decide +kernel
theorem dL_law_261 : decode cL_law 261 = .ok (.iload 5, 2) := by decide +kernel
theorem dL_law_263 : decode cL_law 263 = .ok (.iconst 4, 1) := by decide +kernel
theorem dL_law_264 : decode cL_law 264 = .ok (.iadd, 1) := by decide +kernel
theorem dL_law_265 : decode cL_law 265 = .ok (.iaload, 1) := by decide +kernel
theorem dL_law_266 : decode cL_law 266 = .ok (.aload_n 0, 1) := by decide +kernel
theorem dL_law_267 : decode cL_law 267 = .ok (.iload 5, 2) := by decide +kernel
theorem dL_law_269 : decode cL_law 269 = .ok (.iconst 5, 1) := by decide +kernel
theorem dL_law_270 : decode cL_law 270 = .ok (.iadd, 1) := by decide +kernel
theorem dL_law_271 : decode cL_law 271 = .ok (.iaload, 1) := by decide +kernel
theorem dL_law_272 : decode cL_law 272 = .ok (.invokevirtual 140, 3) := by decide +kernel
theorem dL_law_275 : decode cL_law 275 = .ok (.istore 7, 2) := by decide +kernel
theorem dL_law_277 : decode cL_law 277 = .ok (.aload_n 2, 1) := by decide +kernel
theorem dL_law_278 : decode cL_law 278 = .ok (.invokevirtual 141, 3) := by decide +kernel
theorem dL_law_281 : decode cL_law 281 = .ok (.iload 6, 2) := by decide +kernel
theorem dL_law_283 : decode cL_law 283 = .ok (.if_icmp .eq 5, 3) := by decide +kernel
theorem dL_law_288 : decode cL_law 288 = .ok (.iload 6, 2) := by decide +kernel
theorem dL_law_290 : decode cL_law 290 = .ok (.ifCond .ne 15, 3) := by decide +kernel
theorem dL_law_293 : decode cL_law 293 = .ok (.aload_n 3, 1) := by decide +kernel
theorem dL_law_294 : decode cL_law 294 = .ok (.iconst 0, 1) := by decide +kernel
theorem dL_law_295 : decode cL_law 295 = .ok (.laload, 1) := by decide +kernel
theorem dL_law_296 : decode cL_law 296 = .ok (.iload 7, 2) := by decide +kernel
theorem dL_law_298 : decode cL_law 298 = .ok (.i2l, 1) := by decide +kernel
theorem dL_law_299 : decode cL_law 299 = .ok (.lcmp, 1) := by decide +kernel
theorem dL_law_300 : decode cL_law 300 = .ok (.ifCond .eq 5, 3) := by decide +kernel
theorem dL_law_305 : decode cL_law 305 = .ok (.goto 2152, 3) := by decide +kernel
theorem dL_law_308 : decode cL_law 308 = .ok (.aload_n 1, 1) := by decide +kernel
theorem dL_law_309 : decode cL_law 309 = .ok (.aload_n 0, 1) := by decide +kernel
theorem dL_law_310 : decode cL_law 310 = .ok (.iload 5, 2) := by decide +kernel
theorem dL_law_312 : decode cL_law 312 = .ok (.iconst 1, 1) := by decide +kernel
theorem dL_law_313 : decode cL_law 313 = .ok (.iadd, 1) := by decide +kernel
theorem dL_law_314 : decode cL_law 314 = .ok (.iaload, 1) := by decide +kernel
theorem dL_law_315 : decode cL_law 315 = .ok (.aload_n 3, 1) := by decide +kernel
theorem dL_law_316 : decode cL_law 316 = .ok (.invokestatic 144, 3) := by decide +kernel
theorem dL_law_319 : decode cL_law 319 = .ok (.istore 6, 2) := by decide +kernel
theorem dL_law_321 : decode cL_law 321 = .ok (.aload_n 2, 1) := by decide +kernel
theorem dL_law_322 : decode cL_law 322 = .ok (.aload_n 0, 1) := by decide +kernel
theorem dL_law_323 : decode cL_law 323 = .ok (.iload 5, 2) := by decide +kernel
theorem dL_law_325 : decode cL_law 325 = .ok (.iconst 1, 1) := by decide +kernel
theorem dL_law_326 : decode cL_law 326 = .ok (.iadd, 1) := by decide +kernel
theorem dL_law_327 : decode cL_law 327 = .ok (.iaload, 1) := by decide +kernel
theorem dL_law_328 : decode cL_law 328 = .ok (.invokevirtual 147, 3) := by decide +kernel
theorem dL_law_331 : decode cL_law 331 = .ok (.istore 7, 2) := by decide +kernel
theorem dL_law_333 : decode cL_law 333 = .ok (.aload_n 2, 1) := by decide +kernel
theorem dL_law_334 : decode cL_law 334 = .ok (.invokevirtual 141, 3) := by decide +kernel
theorem dL_law_337 : decode cL_law 337 = .ok (.iload 6, 2) := by decide +kernel
theorem dL_law_339 : decode cL_law 339 = .ok (.if_icmp .eq 5, 3) := by decide +kernel
theorem dL_law_344 : decode cL_law 344 = .ok (.iload 6, 2) := by decide +kernel
theorem dL_law_346 : decode cL_law 346 = .ok (.ifCond .ne 15, 3) := by decide +kernel
theorem dL_law_361 : decode cL_law 361 = .ok (.goto 2096, 3) := by decide +kernel
theorem dL_law_364 : decode cL_law 364 = .ok (.aload_n 1, 1) := by decide +kernel
theorem dL_law_365 : decode cL_law 365 = .ok (.aload_n 0, 1) := by decide +kernel
theorem dL_law_366 : decode cL_law 366 = .ok (.iload 5, 2) := by decide +kernel
theorem dL_law_368 : decode cL_law 368 = .ok (.iconst 1, 1) := by decide +kernel
theorem dL_law_369 : decode cL_law 369 = .ok (.iadd, 1) := by decide +kernel
theorem dL_law_370 : decode cL_law 370 = .ok (.iaload, 1) := by decide +kernel
theorem dL_law_371 : decode cL_law 371 = .ok (.aload_n 0, 1) := by decide +kernel
theorem dL_law_372 : decode cL_law 372 = .ok (.iload 5, 2) := by decide +kernel
theorem dL_law_374 : decode cL_law 374 = .ok (.iconst 2, 1) := by decide +kernel
theorem dL_law_375 : decode cL_law 375 = .ok (.iadd, 1) := by decide +kernel
theorem dL_law_376 : decode cL_law 376 = .ok (.iaload, 1) := by decide +kernel
theorem dL_law_377 : decode cL_law 377 = .ok (.aload_n 3, 1) := by decide +kernel
theorem dL_law_378 : decode cL_law 378 = .ok (.invokestatic 148, 3) := by decide +kernel
theorem dL_law_381 : decode cL_law 381 = .ok (.istore 6, 2) := by decide +kernel
theorem dL_law_383 : decode cL_law 383 = .ok (.aload_n 2, 1) := by decide +kernel
theorem dL_law_384 : decode cL_law 384 = .ok (.aload_n 0, 1) := by decide +kernel
theorem dL_law_385 : decode cL_law 385 = .ok (.iload 5, 2) := by decide +kernel
theorem dL_law_387 : decode cL_law 387 = .ok (.iconst 1, 1) := by decide +kernel
theorem dL_law_388 : decode cL_law 388 = .ok (.iadd, 1) := by decide +kernel
theorem dL_law_389 : decode cL_law 389 = .ok (.iaload, 1) := by decide +kernel
theorem dL_law_390 : decode cL_law 390 = .ok (.aload_n 0, 1) := by decide +kernel
theorem dL_law_391 : decode cL_law 391 = .ok (.iload 5, 2) := by decide +kernel
theorem dL_law_393 : decode cL_law 393 = .ok (.iconst 2, 1) := by decide +kernel
theorem dL_law_394 : decode cL_law 394 = .ok (.iadd, 1) := by decide +kernel
theorem dL_law_395 : decode cL_law 395 = .ok (.iaload, 1) := by decide +kernel
theorem dL_law_396 : decode cL_law 396 = .ok (.invokevirtual 151, 3) := by decide +kernel
theorem dL_law_399 : decode cL_law 399 = .ok (.istore 7, 2) := by decide +kernel
theorem dL_law_401 : decode cL_law 401 = .ok (.aload_n 2, 1) := by decide +kernel
theorem dL_law_402 : decode cL_law 402 = .ok (.invokevirtual 141, 3) := by decide +kernel
theorem dL_law_405 : decode cL_law 405 = .ok (.iload 6, 2) := by decide +kernel
theorem dL_law_407 : decode cL_law 407 = .ok (.if_icmp .eq 5, 3) := by decide +kernel
theorem dL_law_412 : decode cL_law 412 = .ok (.iload 6, 2) := by decide +kernel
theorem dL_law_414 : decode cL_law 414 = .ok (.ifCond .ne 15, 3) := by decide +kernel
theorem dL_law_429 : decode cL_law 429 = .ok (.goto 2028, 3) := by decide +kernel
theorem dL_law_432 : decode cL_law 432 = .ok (.aload_n 1, 1) := by decide +kernel
theorem dL_law_433 : decode cL_law 433 = .ok (.aload_n 0, 1) := by decide +kernel
theorem dL_law_434 : decode cL_law 434 = .ok (.iload 5, 2) := by decide +kernel
theorem dL_law_436 : decode cL_law 436 = .ok (.iconst 1, 1) := by decide +kernel
theorem dL_law_437 : decode cL_law 437 = .ok (.iadd, 1) := by decide +kernel
theorem dL_law_438 : decode cL_law 438 = .ok (.iaload, 1) := by decide +kernel
theorem dL_law_439 : decode cL_law 439 = .ok (.aload_n 0, 1) := by decide +kernel
theorem dL_law_440 : decode cL_law 440 = .ok (.iload 5, 2) := by decide +kernel
theorem dL_law_442 : decode cL_law 442 = .ok (.iconst 2, 1) := by decide +kernel
theorem dL_law_443 : decode cL_law 443 = .ok (.iadd, 1) := by decide +kernel
theorem dL_law_444 : decode cL_law 444 = .ok (.iaload, 1) := by decide +kernel
theorem dL_law_445 : decode cL_law 445 = .ok (.aload_n 3, 1) := by decide +kernel
theorem dL_law_446 : decode cL_law 446 = .ok (.invokestatic 152, 3) := by decide +kernel
theorem dL_law_449 : decode cL_law 449 = .ok (.istore 6, 2) := by decide +kernel
theorem dL_law_451 : decode cL_law 451 = .ok (.aload_n 2, 1) := by decide +kernel
theorem dL_law_452 : decode cL_law 452 = .ok (.aload_n 0, 1) := by decide +kernel
theorem dL_law_453 : decode cL_law 453 = .ok (.iload 5, 2) := by decide +kernel
theorem dL_law_455 : decode cL_law 455 = .ok (.iconst 1, 1) := by decide +kernel
theorem dL_law_456 : decode cL_law 456 = .ok (.iadd, 1) := by decide +kernel
theorem dL_law_457 : decode cL_law 457 = .ok (.iaload, 1) := by decide +kernel
theorem dL_law_458 : decode cL_law 458 = .ok (.aload_n 0, 1) := by decide +kernel
theorem dL_law_459 : decode cL_law 459 = .ok (.iload 5, 2) := by decide +kernel
theorem dL_law_461 : decode cL_law 461 = .ok (.iconst 2, 1) := by decide +kernel
theorem dL_law_462 : decode cL_law 462 = .ok (.iadd, 1) := by decide +kernel
theorem dL_law_463 : decode cL_law 463 = .ok (.iaload, 1) := by decide +kernel
theorem dL_law_464 : decode cL_law 464 = .ok (.invokevirtual 154, 3) := by decide +kernel
theorem dL_law_467 : decode cL_law 467 = .ok (.istore 7, 2) := by decide +kernel
theorem dL_law_469 : decode cL_law 469 = .ok (.aload_n 2, 1) := by decide +kernel
theorem dL_law_470 : decode cL_law 470 = .ok (.invokevirtual 141, 3) := by decide +kernel
theorem dL_law_473 : decode cL_law 473 = .ok (.iload 6, 2) := by decide +kernel
theorem dL_law_475 : decode cL_law 475 = .ok (.if_icmp .eq 5, 3) := by decide +kernel
theorem dL_law_480 : decode cL_law 480 = .ok (.iload 6, 2) := by decide +kernel
theorem dL_law_482 : decode cL_law 482 = .ok (.ifCond .ne 15, 3) := by decide +kernel
theorem dL_law_485 : decode cL_law 485 = .ok (.aload_n 3, 1) := by decide +kernel
theorem dL_law_486 : decode cL_law 486 = .ok (.iconst 0, 1) := by decide +kernel
theorem dL_law_487 : decode cL_law 487 = .ok (.laload, 1) := by decide +kernel
theorem dL_law_488 : decode cL_law 488 = .ok (.iload 7, 2) := by decide +kernel
theorem dL_law_490 : decode cL_law 490 = .ok (.i2l, 1) := by decide +kernel
theorem dL_law_491 : decode cL_law 491 = .ok (.lcmp, 1) := by decide +kernel
theorem dL_law_492 : decode cL_law 492 = .ok (.ifCond .eq 5, 3) := by decide +kernel
theorem dL_law_497 : decode cL_law 497 = .ok (.goto 1960, 3) := by decide +kernel
theorem dL_law_500 : decode cL_law 500 = .ok (.aload_n 1, 1) := by decide +kernel
theorem dL_law_501 : decode cL_law 501 = .ok (.aload_n 0, 1) := by decide +kernel
theorem dL_law_502 : decode cL_law 502 = .ok (.iload 5, 2) := by decide +kernel
theorem dL_law_504 : decode cL_law 504 = .ok (.iconst 1, 1) := by decide +kernel
theorem dL_law_505 : decode cL_law 505 = .ok (.iadd, 1) := by decide +kernel
theorem dL_law_506 : decode cL_law 506 = .ok (.iaload, 1) := by decide +kernel
theorem dL_law_507 : decode cL_law 507 = .ok (.aload_n 0, 1) := by decide +kernel
theorem dL_law_508 : decode cL_law 508 = .ok (.iload 5, 2) := by decide +kernel
theorem dL_law_510 : decode cL_law 510 = .ok (.iconst 2, 1) := by decide +kernel
theorem dL_law_511 : decode cL_law 511 = .ok (.iadd, 1) := by decide +kernel
theorem dL_law_512 : decode cL_law 512 = .ok (.iaload, 1) := by decide +kernel
theorem dL_law_513 : decode cL_law 513 = .ok (.aload_n 3, 1) := by decide +kernel
theorem dL_law_514 : decode cL_law 514 = .ok (.invokestatic 155, 3) := by decide +kernel
theorem dL_law_517 : decode cL_law 517 = .ok (.istore 6, 2) := by decide +kernel
theorem dL_law_519 : decode cL_law 519 = .ok (.aload_n 2, 1) := by decide +kernel
theorem dL_law_520 : decode cL_law 520 = .ok (.aload_n 0, 1) := by decide +kernel
theorem dL_law_521 : decode cL_law 521 = .ok (.iload 5, 2) := by decide +kernel
theorem dL_law_523 : decode cL_law 523 = .ok (.iconst 1, 1) := by decide +kernel
theorem dL_law_524 : decode cL_law 524 = .ok (.iadd, 1) := by decide +kernel
theorem dL_law_525 : decode cL_law 525 = .ok (.iaload, 1) := by decide +kernel
theorem dL_law_526 : decode cL_law 526 = .ok (.aload_n 0, 1) := by decide +kernel
theorem dL_law_527 : decode cL_law 527 = .ok (.iload 5, 2) := by decide +kernel
theorem dL_law_529 : decode cL_law 529 = .ok (.iconst 2, 1) := by decide +kernel
theorem dL_law_530 : decode cL_law 530 = .ok (.iadd, 1) := by decide +kernel
theorem dL_law_531 : decode cL_law 531 = .ok (.iaload, 1) := by decide +kernel
theorem dL_law_532 : decode cL_law 532 = .ok (.invokevirtual 157, 3) := by decide +kernel
theorem dL_law_535 : decode cL_law 535 = .ok (.istore 7, 2) := by decide +kernel
theorem dL_law_537 : decode cL_law 537 = .ok (.aload_n 2, 1) := by decide +kernel
theorem dL_law_538 : decode cL_law 538 = .ok (.invokevirtual 141, 3) := by decide +kernel
theorem dL_law_541 : decode cL_law 541 = .ok (.iload 6, 2) := by decide +kernel
theorem dL_law_543 : decode cL_law 543 = .ok (.if_icmp .eq 5, 3) := by decide +kernel
theorem dL_law_548 : decode cL_law 548 = .ok (.iload 6, 2) := by decide +kernel
theorem dL_law_550 : decode cL_law 550 = .ok (.ifCond .ne 15, 3) := by decide +kernel
theorem dL_law_565 : decode cL_law 565 = .ok (.goto 1892, 3) := by decide +kernel
theorem dL_law_568 : decode cL_law 568 = .ok (.aload_n 1, 1) := by decide +kernel
theorem dL_law_569 : decode cL_law 569 = .ok (.aload_n 0, 1) := by decide +kernel
theorem dL_law_570 : decode cL_law 570 = .ok (.iload 5, 2) := by decide +kernel
theorem dL_law_572 : decode cL_law 572 = .ok (.iconst 1, 1) := by decide +kernel
theorem dL_law_573 : decode cL_law 573 = .ok (.iadd, 1) := by decide +kernel
theorem dL_law_574 : decode cL_law 574 = .ok (.iaload, 1) := by decide +kernel
theorem dL_law_575 : decode cL_law 575 = .ok (.aload_n 0, 1) := by decide +kernel
theorem dL_law_576 : decode cL_law 576 = .ok (.iload 5, 2) := by decide +kernel
theorem dL_law_578 : decode cL_law 578 = .ok (.iconst 2, 1) := by decide +kernel
theorem dL_law_579 : decode cL_law 579 = .ok (.iadd, 1) := by decide +kernel
theorem dL_law_580 : decode cL_law 580 = .ok (.iaload, 1) := by decide +kernel
theorem dL_law_581 : decode cL_law 581 = .ok (.aload_n 0, 1) := by decide +kernel
theorem dL_law_582 : decode cL_law 582 = .ok (.iload 5, 2) := by decide +kernel
theorem dL_law_584 : decode cL_law 584 = .ok (.iconst 3, 1) := by decide +kernel
theorem dL_law_585 : decode cL_law 585 = .ok (.iadd, 1) := by decide +kernel
theorem dL_law_586 : decode cL_law 586 = .ok (.iaload, 1) := by decide +kernel
theorem dL_law_587 : decode cL_law 587 = .ok (.aload_n 3, 1) := by decide +kernel
theorem dL_law_588 : decode cL_law 588 = .ok (.invokestatic 158, 3) := by decide +kernel
theorem dL_law_591 : decode cL_law 591 = .ok (.istore 6, 2) := by decide +kernel
theorem dL_law_593 : decode cL_law 593 = .ok (.aload_n 2, 1) := by decide +kernel
theorem dL_law_594 : decode cL_law 594 = .ok (.aload_n 0, 1) := by decide +kernel
theorem dL_law_595 : decode cL_law 595 = .ok (.iload 5, 2) := by decide +kernel
theorem dL_law_597 : decode cL_law 597 = .ok (.iconst 1, 1) := by decide +kernel
theorem dL_law_598 : decode cL_law 598 = .ok (.iadd, 1) := by decide +kernel
theorem dL_law_599 : decode cL_law 599 = .ok (.iaload, 1) := by decide +kernel
theorem dL_law_600 : decode cL_law 600 = .ok (.aload_n 0, 1) := by decide +kernel
theorem dL_law_601 : decode cL_law 601 = .ok (.iload 5, 2) := by decide +kernel
theorem dL_law_603 : decode cL_law 603 = .ok (.iconst 2, 1) := by decide +kernel
theorem dL_law_604 : decode cL_law 604 = .ok (.iadd, 1) := by decide +kernel
theorem dL_law_605 : decode cL_law 605 = .ok (.iaload, 1) := by decide +kernel
theorem dL_law_606 : decode cL_law 606 = .ok (.aload_n 0, 1) := by decide +kernel
theorem dL_law_607 : decode cL_law 607 = .ok (.iload 5, 2) := by decide +kernel
theorem dL_law_609 : decode cL_law 609 = .ok (.iconst 3, 1) := by decide +kernel
theorem dL_law_610 : decode cL_law 610 = .ok (.iadd, 1) := by decide +kernel
theorem dL_law_611 : decode cL_law 611 = .ok (.iaload, 1) := by decide +kernel
theorem dL_law_612 : decode cL_law 612 = .ok (.invokevirtual 161, 3) := by decide +kernel
theorem dL_law_615 : decode cL_law 615 = .ok (.istore 7, 2) := by decide +kernel
theorem dL_law_617 : decode cL_law 617 = .ok (.aload_n 2, 1) := by decide +kernel
theorem dL_law_618 : decode cL_law 618 = .ok (.invokevirtual 141, 3) := by decide +kernel
theorem dL_law_621 : decode cL_law 621 = .ok (.iload 6, 2) := by decide +kernel
theorem dL_law_623 : decode cL_law 623 = .ok (.if_icmp .eq 5, 3) := by decide +kernel
theorem dL_law_628 : decode cL_law 628 = .ok (.iload 6, 2) := by decide +kernel
theorem dL_law_630 : decode cL_law 630 = .ok (.ifCond .ne 15, 3) := by decide +kernel
theorem dL_law_633 : decode cL_law 633 = .ok (.aload_n 3, 1) := by decide +kernel
theorem dL_law_634 : decode cL_law 634 = .ok (.iconst 0, 1) := by decide +kernel
theorem dL_law_635 : decode cL_law 635 = .ok (.laload, 1) := by decide +kernel
theorem dL_law_636 : decode cL_law 636 = .ok (.iload 7, 2) := by decide +kernel
theorem dL_law_638 : decode cL_law 638 = .ok (.i2l, 1) := by decide +kernel
theorem dL_law_639 : decode cL_law 639 = .ok (.lcmp, 1) := by decide +kernel
theorem dL_law_640 : decode cL_law 640 = .ok (.ifCond .eq 5, 3) := by decide +kernel
theorem dL_law_645 : decode cL_law 645 = .ok (.goto 1812, 3) := by decide +kernel
theorem dL_law_648 : decode cL_law 648 = .ok (.aload_n 1, 1) := by decide +kernel
theorem dL_law_649 : decode cL_law 649 = .ok (.aload_n 0, 1) := by decide +kernel
theorem dL_law_650 : decode cL_law 650 = .ok (.iload 5, 2) := by decide +kernel
theorem dL_law_652 : decode cL_law 652 = .ok (.iconst 1, 1) := by decide +kernel
theorem dL_law_653 : decode cL_law 653 = .ok (.iadd, 1) := by decide +kernel
theorem dL_law_654 : decode cL_law 654 = .ok (.iaload, 1) := by decide +kernel
theorem dL_law_655 : decode cL_law 655 = .ok (.aload_n 0, 1) := by decide +kernel
theorem dL_law_656 : decode cL_law 656 = .ok (.iload 5, 2) := by decide +kernel
theorem dL_law_658 : decode cL_law 658 = .ok (.iconst 2, 1) := by decide +kernel
theorem dL_law_659 : decode cL_law 659 = .ok (.iadd, 1) := by decide +kernel
theorem dL_law_660 : decode cL_law 660 = .ok (.iaload, 1) := by decide +kernel
theorem dL_law_661 : decode cL_law 661 = .ok (.aload_n 0, 1) := by decide +kernel
theorem dL_law_662 : decode cL_law 662 = .ok (.iload 5, 2) := by decide +kernel
theorem dL_law_664 : decode cL_law 664 = .ok (.iconst 3, 1) := by decide +kernel
theorem dL_law_665 : decode cL_law 665 = .ok (.iadd, 1) := by decide +kernel
theorem dL_law_666 : decode cL_law 666 = .ok (.iaload, 1) := by decide +kernel
theorem dL_law_667 : decode cL_law 667 = .ok (.aload_n 3, 1) := by decide +kernel
theorem dL_law_668 : decode cL_law 668 = .ok (.invokestatic 162, 3) := by decide +kernel
theorem dL_law_671 : decode cL_law 671 = .ok (.istore 6, 2) := by decide +kernel
theorem dL_law_673 : decode cL_law 673 = .ok (.aload_n 2, 1) := by decide +kernel
theorem dL_law_674 : decode cL_law 674 = .ok (.aload_n 0, 1) := by decide +kernel
theorem dL_law_675 : decode cL_law 675 = .ok (.iload 5, 2) := by decide +kernel
theorem dL_law_677 : decode cL_law 677 = .ok (.iconst 1, 1) := by decide +kernel
theorem dL_law_678 : decode cL_law 678 = .ok (.iadd, 1) := by decide +kernel
theorem dL_law_679 : decode cL_law 679 = .ok (.iaload, 1) := by decide +kernel
theorem dL_law_680 : decode cL_law 680 = .ok (.aload_n 0, 1) := by decide +kernel
theorem dL_law_681 : decode cL_law 681 = .ok (.iload 5, 2) := by decide +kernel
theorem dL_law_683 : decode cL_law 683 = .ok (.iconst 2, 1) := by decide +kernel
theorem dL_law_684 : decode cL_law 684 = .ok (.iadd, 1) := by decide +kernel
theorem dL_law_685 : decode cL_law 685 = .ok (.iaload, 1) := by decide +kernel
theorem dL_law_686 : decode cL_law 686 = .ok (.aload_n 0, 1) := by decide +kernel
theorem dL_law_687 : decode cL_law 687 = .ok (.iload 5, 2) := by decide +kernel
theorem dL_law_689 : decode cL_law 689 = .ok (.iconst 3, 1) := by decide +kernel
theorem dL_law_690 : decode cL_law 690 = .ok (.iadd, 1) := by decide +kernel
theorem dL_law_691 : decode cL_law 691 = .ok (.iaload, 1) := by decide +kernel
theorem dL_law_692 : decode cL_law 692 = .ok (.invokevirtual 164, 3) := by decide +kernel
theorem dL_law_695 : decode cL_law 695 = .ok (.istore 7, 2) := by decide +kernel
theorem dL_law_697 : decode cL_law 697 = .ok (.aload_n 2, 1) := by decide +kernel
theorem dL_law_698 : decode cL_law 698 = .ok (.invokevirtual 141, 3) := by decide +kernel
theorem dL_law_701 : decode cL_law 701 = .ok (.iload 6, 2) := by decide +kernel
theorem dL_law_703 : decode cL_law 703 = .ok (.if_icmp .eq 5, 3) := by decide +kernel
theorem dL_law_708 : decode cL_law 708 = .ok (.iload 6, 2) := by decide +kernel
theorem dL_law_710 : decode cL_law 710 = .ok (.ifCond .ne 15, 3) := by decide +kernel
theorem dL_law_725 : decode cL_law 725 = .ok (.goto 1732, 3) := by decide +kernel
theorem dL_law_728 : decode cL_law 728 = .ok (.aload_n 1, 1) := by decide +kernel
theorem dL_law_729 : decode cL_law 729 = .ok (.aload_n 0, 1) := by decide +kernel
theorem dL_law_730 : decode cL_law 730 = .ok (.iload 5, 2) := by decide +kernel
theorem dL_law_732 : decode cL_law 732 = .ok (.iconst 1, 1) := by decide +kernel
theorem dL_law_733 : decode cL_law 733 = .ok (.iadd, 1) := by decide +kernel
theorem dL_law_734 : decode cL_law 734 = .ok (.iaload, 1) := by decide +kernel
theorem dL_law_735 : decode cL_law 735 = .ok (.aload_n 0, 1) := by decide +kernel
theorem dL_law_736 : decode cL_law 736 = .ok (.iload 5, 2) := by decide +kernel
theorem dL_law_738 : decode cL_law 738 = .ok (.iconst 2, 1) := by decide +kernel
theorem dL_law_739 : decode cL_law 739 = .ok (.iadd, 1) := by decide +kernel
theorem dL_law_740 : decode cL_law 740 = .ok (.iaload, 1) := by decide +kernel
theorem dL_law_741 : decode cL_law 741 = .ok (.aload_n 3, 1) := by decide +kernel
theorem dL_law_742 : decode cL_law 742 = .ok (.invokestatic 165, 3) := by decide +kernel
theorem dL_law_745 : decode cL_law 745 = .ok (.istore 6, 2) := by decide +kernel
theorem dL_law_747 : decode cL_law 747 = .ok (.aload_n 2, 1) := by decide +kernel
theorem dL_law_748 : decode cL_law 748 = .ok (.aload_n 0, 1) := by decide +kernel
theorem dL_law_749 : decode cL_law 749 = .ok (.iload 5, 2) := by decide +kernel
theorem dL_law_751 : decode cL_law 751 = .ok (.iconst 1, 1) := by decide +kernel
theorem dL_law_752 : decode cL_law 752 = .ok (.iadd, 1) := by decide +kernel
theorem dL_law_753 : decode cL_law 753 = .ok (.iaload, 1) := by decide +kernel
theorem dL_law_754 : decode cL_law 754 = .ok (.aload_n 0, 1) := by decide +kernel
theorem dL_law_755 : decode cL_law 755 = .ok (.iload 5, 2) := by decide +kernel
theorem dL_law_757 : decode cL_law 757 = .ok (.iconst 2, 1) := by decide +kernel
theorem dL_law_758 : decode cL_law 758 = .ok (.iadd, 1) := by decide +kernel
theorem dL_law_759 : decode cL_law 759 = .ok (.iaload, 1) := by decide +kernel
theorem dL_law_760 : decode cL_law 760 = .ok (.invokevirtual 167, 3) := by decide +kernel
theorem dL_law_763 : decode cL_law 763 = .ok (.istore 7, 2) := by decide +kernel
theorem dL_law_765 : decode cL_law 765 = .ok (.aload_n 2, 1) := by decide +kernel
theorem dL_law_766 : decode cL_law 766 = .ok (.invokevirtual 141, 3) := by decide +kernel
theorem dL_law_769 : decode cL_law 769 = .ok (.iload 6, 2) := by decide +kernel
theorem dL_law_771 : decode cL_law 771 = .ok (.if_icmp .eq 5, 3) := by decide +kernel
theorem dL_law_776 : decode cL_law 776 = .ok (.iload 6, 2) := by decide +kernel
theorem dL_law_778 : decode cL_law 778 = .ok (.ifCond .ne 15, 3) := by decide +kernel
theorem dL_law_781 : decode cL_law 781 = .ok (.aload_n 3, 1) := by decide +kernel
theorem dL_law_782 : decode cL_law 782 = .ok (.iconst 0, 1) := by decide +kernel
theorem dL_law_783 : decode cL_law 783 = .ok (.laload, 1) := by decide +kernel
theorem dL_law_784 : decode cL_law 784 = .ok (.iload 7, 2) := by decide +kernel
theorem dL_law_786 : decode cL_law 786 = .ok (.i2l, 1) := by decide +kernel
theorem dL_law_787 : decode cL_law 787 = .ok (.lcmp, 1) := by decide +kernel
theorem dL_law_788 : decode cL_law 788 = .ok (.ifCond .eq 5, 3) := by decide +kernel
theorem dL_law_793 : decode cL_law 793 = .ok (.goto 1664, 3) := by decide +kernel
theorem dL_law_796 : decode cL_law 796 = .ok (.aload_n 1, 1) := by decide +kernel
theorem dL_law_797 : decode cL_law 797 = .ok (.aload_n 0, 1) := by decide +kernel
theorem dL_law_798 : decode cL_law 798 = .ok (.iload 5, 2) := by decide +kernel
theorem dL_law_800 : decode cL_law 800 = .ok (.iconst 1, 1) := by decide +kernel
theorem dL_law_801 : decode cL_law 801 = .ok (.iadd, 1) := by decide +kernel
theorem dL_law_802 : decode cL_law 802 = .ok (.iaload, 1) := by decide +kernel
theorem dL_law_803 : decode cL_law 803 = .ok (.aload_n 0, 1) := by decide +kernel
theorem dL_law_804 : decode cL_law 804 = .ok (.iload 5, 2) := by decide +kernel
theorem dL_law_806 : decode cL_law 806 = .ok (.iconst 2, 1) := by decide +kernel
theorem dL_law_807 : decode cL_law 807 = .ok (.iadd, 1) := by decide +kernel
theorem dL_law_808 : decode cL_law 808 = .ok (.iaload, 1) := by decide +kernel
theorem dL_law_809 : decode cL_law 809 = .ok (.aload_n 3, 1) := by decide +kernel
theorem dL_law_810 : decode cL_law 810 = .ok (.invokestatic 168, 3) := by decide +kernel
theorem dL_law_813 : decode cL_law 813 = .ok (.istore 6, 2) := by decide +kernel
theorem dL_law_815 : decode cL_law 815 = .ok (.aload_n 2, 1) := by decide +kernel
theorem dL_law_816 : decode cL_law 816 = .ok (.aload_n 0, 1) := by decide +kernel
theorem dL_law_817 : decode cL_law 817 = .ok (.iload 5, 2) := by decide +kernel
theorem dL_law_819 : decode cL_law 819 = .ok (.iconst 1, 1) := by decide +kernel
theorem dL_law_820 : decode cL_law 820 = .ok (.iadd, 1) := by decide +kernel
theorem dL_law_821 : decode cL_law 821 = .ok (.iaload, 1) := by decide +kernel
theorem dL_law_822 : decode cL_law 822 = .ok (.aload_n 0, 1) := by decide +kernel
theorem dL_law_823 : decode cL_law 823 = .ok (.iload 5, 2) := by decide +kernel
theorem dL_law_825 : decode cL_law 825 = .ok (.iconst 2, 1) := by decide +kernel
theorem dL_law_826 : decode cL_law 826 = .ok (.iadd, 1) := by decide +kernel
theorem dL_law_827 : decode cL_law 827 = .ok (.iaload, 1) := by decide +kernel
theorem dL_law_828 : decode cL_law 828 = .ok (.invokevirtual 170, 3) := by decide +kernel
theorem dL_law_831 : decode cL_law 831 = .ok (.istore 7, 2) := by decide +kernel
theorem dL_law_833 : decode cL_law 833 = .ok (.aload_n 2, 1) := by decide +kernel
theorem dL_law_834 : decode cL_law 834 = .ok (.invokevirtual 141, 3) := by decide +kernel
theorem dL_law_837 : decode cL_law 837 = .ok (.iload 6, 2) := by decide +kernel
theorem dL_law_839 : decode cL_law 839 = .ok (.if_icmp .eq 5, 3) := by decide +kernel
theorem dL_law_844 : decode cL_law 844 = .ok (.iload 6, 2) := by decide +kernel
theorem dL_law_846 : decode cL_law 846 = .ok (.ifCond .ne 15, 3) := by decide +kernel
theorem dL_law_849 : decode cL_law 849 = .ok (.aload_n 3, 1) := by decide +kernel
theorem dL_law_850 : decode cL_law 850 = .ok (.iconst 0, 1) := by decide +kernel
theorem dL_law_851 : decode cL_law 851 = .ok (.laload, 1) := by decide +kernel
theorem dL_law_852 : decode cL_law 852 = .ok (.iload 7, 2) := by decide +kernel
theorem dL_law_854 : decode cL_law 854 = .ok (.i2l, 1) := by decide +kernel
theorem dL_law_855 : decode cL_law 855 = .ok (.lcmp, 1) := by decide +kernel
theorem dL_law_856 : decode cL_law 856 = .ok (.ifCond .eq 5, 3) := by decide +kernel
theorem dL_law_861 : decode cL_law 861 = .ok (.goto 1596, 3) := by decide +kernel
theorem dL_law_864 : decode cL_law 864 = .ok (.aload_n 1, 1) := by decide +kernel
theorem dL_law_865 : decode cL_law 865 = .ok (.aload_n 0, 1) := by decide +kernel
theorem dL_law_866 : decode cL_law 866 = .ok (.iload 5, 2) := by decide +kernel
theorem dL_law_868 : decode cL_law 868 = .ok (.iconst 1, 1) := by decide +kernel
theorem dL_law_869 : decode cL_law 869 = .ok (.iadd, 1) := by decide +kernel
theorem dL_law_870 : decode cL_law 870 = .ok (.iaload, 1) := by decide +kernel
theorem dL_law_871 : decode cL_law 871 = .ok (.aload_n 3, 1) := by decide +kernel
theorem dL_law_872 : decode cL_law 872 = .ok (.invokestatic 171, 3) := by decide +kernel
theorem dL_law_875 : decode cL_law 875 = .ok (.istore 6, 2) := by decide +kernel
theorem dL_law_877 : decode cL_law 877 = .ok (.aload_n 2, 1) := by decide +kernel
theorem dL_law_878 : decode cL_law 878 = .ok (.aload_n 0, 1) := by decide +kernel
theorem dL_law_879 : decode cL_law 879 = .ok (.iload 5, 2) := by decide +kernel
theorem dL_law_881 : decode cL_law 881 = .ok (.iconst 1, 1) := by decide +kernel
theorem dL_law_882 : decode cL_law 882 = .ok (.iadd, 1) := by decide +kernel
theorem dL_law_883 : decode cL_law 883 = .ok (.iaload, 1) := by decide +kernel
theorem dL_law_884 : decode cL_law 884 = .ok (.invokevirtual 173, 3) := by decide +kernel
theorem dL_law_887 : decode cL_law 887 = .ok (.istore 7, 2) := by decide +kernel
theorem dL_law_889 : decode cL_law 889 = .ok (.aload_n 2, 1) := by decide +kernel
theorem dL_law_890 : decode cL_law 890 = .ok (.invokevirtual 141, 3) := by decide +kernel
theorem dL_law_893 : decode cL_law 893 = .ok (.iload 6, 2) := by decide +kernel
theorem dL_law_895 : decode cL_law 895 = .ok (.if_icmp .eq 5, 3) := by decide +kernel
theorem dL_law_900 : decode cL_law 900 = .ok (.iload 6, 2) := by decide +kernel
theorem dL_law_902 : decode cL_law 902 = .ok (.ifCond .ne 15, 3) := by decide +kernel
theorem dL_law_917 : decode cL_law 917 = .ok (.goto 1540, 3) := by decide +kernel
theorem dL_law_920 : decode cL_law 920 = .ok (.aload_n 1, 1) := by decide +kernel
theorem dL_law_921 : decode cL_law 921 = .ok (.aload_n 0, 1) := by decide +kernel
theorem dL_law_922 : decode cL_law 922 = .ok (.iload 5, 2) := by decide +kernel
theorem dL_law_924 : decode cL_law 924 = .ok (.iconst 1, 1) := by decide +kernel
theorem dL_law_925 : decode cL_law 925 = .ok (.iadd, 1) := by decide +kernel
theorem dL_law_926 : decode cL_law 926 = .ok (.iaload, 1) := by decide +kernel
theorem dL_law_927 : decode cL_law 927 = .ok (.aload_n 3, 1) := by decide +kernel
theorem dL_law_928 : decode cL_law 928 = .ok (.invokestatic 174, 3) := by decide +kernel
theorem dL_law_931 : decode cL_law 931 = .ok (.istore 6, 2) := by decide +kernel
theorem dL_law_933 : decode cL_law 933 = .ok (.aload_n 2, 1) := by decide +kernel
theorem dL_law_934 : decode cL_law 934 = .ok (.aload_n 0, 1) := by decide +kernel
theorem dL_law_935 : decode cL_law 935 = .ok (.iload 5, 2) := by decide +kernel
theorem dL_law_937 : decode cL_law 937 = .ok (.iconst 1, 1) := by decide +kernel
theorem dL_law_938 : decode cL_law 938 = .ok (.iadd, 1) := by decide +kernel
theorem dL_law_939 : decode cL_law 939 = .ok (.iaload, 1) := by decide +kernel
theorem dL_law_940 : decode cL_law 940 = .ok (.invokevirtual 176, 3) := by decide +kernel
theorem dL_law_943 : decode cL_law 943 = .ok (.istore 7, 2) := by decide +kernel
theorem dL_law_945 : decode cL_law 945 = .ok (.aload_n 2, 1) := by decide +kernel
theorem dL_law_946 : decode cL_law 946 = .ok (.invokevirtual 141, 3) := by decide +kernel
theorem dL_law_949 : decode cL_law 949 = .ok (.iload 6, 2) := by decide +kernel
theorem dL_law_951 : decode cL_law 951 = .ok (.if_icmp .eq 5, 3) := by decide +kernel
theorem dL_law_956 : decode cL_law 956 = .ok (.iload 6, 2) := by decide +kernel
theorem dL_law_958 : decode cL_law 958 = .ok (.ifCond .ne 15, 3) := by decide +kernel
theorem dL_law_961 : decode cL_law 961 = .ok (.aload_n 3, 1) := by decide +kernel
theorem dL_law_962 : decode cL_law 962 = .ok (.iconst 0, 1) := by decide +kernel
theorem dL_law_963 : decode cL_law 963 = .ok (.laload, 1) := by decide +kernel
theorem dL_law_964 : decode cL_law 964 = .ok (.iload 7, 2) := by decide +kernel
theorem dL_law_966 : decode cL_law 966 = .ok (.i2l, 1) := by decide +kernel
theorem dL_law_967 : decode cL_law 967 = .ok (.lcmp, 1) := by decide +kernel
theorem dL_law_968 : decode cL_law 968 = .ok (.ifCond .eq 5, 3) := by decide +kernel
theorem dL_law_973 : decode cL_law 973 = .ok (.goto 1484, 3) := by decide +kernel
theorem dL_law_976 : decode cL_law 976 = .ok (.aload_n 1, 1) := by decide +kernel
theorem dL_law_977 : decode cL_law 977 = .ok (.aload_n 0, 1) := by decide +kernel
theorem dL_law_978 : decode cL_law 978 = .ok (.iload 5, 2) := by decide +kernel
theorem dL_law_980 : decode cL_law 980 = .ok (.iconst 1, 1) := by decide +kernel
theorem dL_law_981 : decode cL_law 981 = .ok (.iadd, 1) := by decide +kernel
theorem dL_law_982 : decode cL_law 982 = .ok (.iaload, 1) := by decide +kernel
theorem dL_law_983 : decode cL_law 983 = .ok (.aload_n 0, 1) := by decide +kernel
theorem dL_law_984 : decode cL_law 984 = .ok (.iload 5, 2) := by decide +kernel
theorem dL_law_986 : decode cL_law 986 = .ok (.iconst 2, 1) := by decide +kernel
theorem dL_law_987 : decode cL_law 987 = .ok (.iadd, 1) := by decide +kernel
theorem dL_law_988 : decode cL_law 988 = .ok (.iaload, 1) := by decide +kernel
theorem dL_law_989 : decode cL_law 989 = .ok (.aload_n 3, 1) := by decide +kernel
theorem dL_law_990 : decode cL_law 990 = .ok (.invokestatic 177, 3) := by decide +kernel
theorem dL_law_993 : decode cL_law 993 = .ok (.istore 6, 2) := by decide +kernel
theorem dL_law_995 : decode cL_law 995 = .ok (.aload_n 2, 1) := by decide +kernel
theorem dL_law_996 : decode cL_law 996 = .ok (.aload_n 0, 1) := by decide +kernel
theorem dL_law_997 : decode cL_law 997 = .ok (.iload 5, 2) := by decide +kernel
theorem dL_law_999 : decode cL_law 999 = .ok (.iconst 1, 1) := by decide +kernel
theorem dL_law_1000 : decode cL_law 1000 = .ok (.iadd, 1) := by decide +kernel
theorem dL_law_1001 : decode cL_law 1001 = .ok (.iaload, 1) := by decide +kernel
theorem dL_law_1002 : decode cL_law 1002 = .ok (.aload_n 0, 1) := by decide +kernel
theorem dL_law_1003 : decode cL_law 1003 = .ok (.iload 5, 2) := by decide +kernel
theorem dL_law_1005 : decode cL_law 1005 = .ok (.iconst 2, 1) := by decide +kernel
theorem dL_law_1006 : decode cL_law 1006 = .ok (.iadd, 1) := by decide +kernel
theorem dL_law_1007 : decode cL_law 1007 = .ok (.iaload, 1) := by decide +kernel
theorem dL_law_1008 : decode cL_law 1008 = .ok (.invokevirtual 179, 3) := by decide +kernel
theorem dL_law_1011 : decode cL_law 1011 = .ok (.istore 7, 2) := by decide +kernel
theorem dL_law_1013 : decode cL_law 1013 = .ok (.aload_n 2, 1) := by decide +kernel
theorem dL_law_1014 : decode cL_law 1014 = .ok (.invokevirtual 141, 3) := by decide +kernel
theorem dL_law_1017 : decode cL_law 1017 = .ok (.iload 6, 2) := by decide +kernel
theorem dL_law_1019 : decode cL_law 1019 = .ok (.if_icmp .eq 5, 3) := by decide +kernel
theorem dL_law_1024 : decode cL_law 1024 = .ok (.iload 6, 2) := by decide +kernel
theorem dL_law_1026 : decode cL_law 1026 = .ok (.ifCond .ne 15, 3) := by decide +kernel
theorem dL_law_1041 : decode cL_law 1041 = .ok (.goto 1416, 3) := by decide +kernel
theorem dL_law_1044 : decode cL_law 1044 = .ok (.aload_n 1, 1) := by decide +kernel
theorem dL_law_1045 : decode cL_law 1045 = .ok (.aload_n 0, 1) := by decide +kernel
theorem dL_law_1046 : decode cL_law 1046 = .ok (.iload 5, 2) := by decide +kernel
theorem dL_law_1048 : decode cL_law 1048 = .ok (.iconst 1, 1) := by decide +kernel
theorem dL_law_1049 : decode cL_law 1049 = .ok (.iadd, 1) := by decide +kernel
theorem dL_law_1050 : decode cL_law 1050 = .ok (.iaload, 1) := by decide +kernel
theorem dL_law_1051 : decode cL_law 1051 = .ok (.aload_n 3, 1) := by decide +kernel
theorem dL_law_1052 : decode cL_law 1052 = .ok (.invokestatic 180, 3) := by decide +kernel
theorem dL_law_1055 : decode cL_law 1055 = .ok (.istore 6, 2) := by decide +kernel
theorem dL_law_1057 : decode cL_law 1057 = .ok (.aload_n 2, 1) := by decide +kernel
theorem dL_law_1058 : decode cL_law 1058 = .ok (.aload_n 0, 1) := by decide +kernel
theorem dL_law_1059 : decode cL_law 1059 = .ok (.iload 5, 2) := by decide +kernel
theorem dL_law_1061 : decode cL_law 1061 = .ok (.iconst 1, 1) := by decide +kernel
theorem dL_law_1062 : decode cL_law 1062 = .ok (.iadd, 1) := by decide +kernel
theorem dL_law_1063 : decode cL_law 1063 = .ok (.iaload, 1) := by decide +kernel
theorem dL_law_1064 : decode cL_law 1064 = .ok (.invokevirtual 182, 3) := by decide +kernel
theorem dL_law_1067 : decode cL_law 1067 = .ok (.istore 7, 2) := by decide +kernel
theorem dL_law_1069 : decode cL_law 1069 = .ok (.aload_n 2, 1) := by decide +kernel
theorem dL_law_1070 : decode cL_law 1070 = .ok (.invokevirtual 141, 3) := by decide +kernel
theorem dL_law_1073 : decode cL_law 1073 = .ok (.iload 6, 2) := by decide +kernel
theorem dL_law_1075 : decode cL_law 1075 = .ok (.if_icmp .eq 5, 3) := by decide +kernel
theorem dL_law_1080 : decode cL_law 1080 = .ok (.iload 6, 2) := by decide +kernel
theorem dL_law_1082 : decode cL_law 1082 = .ok (.ifCond .ne 15, 3) := by decide +kernel
theorem dL_law_1097 : decode cL_law 1097 = .ok (.goto 1360, 3) := by decide +kernel
theorem dL_law_1100 : decode cL_law 1100 = .ok (.aload_n 1, 1) := by decide +kernel
theorem dL_law_1101 : decode cL_law 1101 = .ok (.aload_n 0, 1) := by decide +kernel
theorem dL_law_1102 : decode cL_law 1102 = .ok (.iload 5, 2) := by decide +kernel
theorem dL_law_1104 : decode cL_law 1104 = .ok (.iconst 1, 1) := by decide +kernel
theorem dL_law_1105 : decode cL_law 1105 = .ok (.iadd, 1) := by decide +kernel
theorem dL_law_1106 : decode cL_law 1106 = .ok (.iaload, 1) := by decide +kernel
theorem dL_law_1107 : decode cL_law 1107 = .ok (.aload_n 0, 1) := by decide +kernel
theorem dL_law_1108 : decode cL_law 1108 = .ok (.iload 5, 2) := by decide +kernel
theorem dL_law_1110 : decode cL_law 1110 = .ok (.iconst 2, 1) := by decide +kernel
theorem dL_law_1111 : decode cL_law 1111 = .ok (.iadd, 1) := by decide +kernel
theorem dL_law_1112 : decode cL_law 1112 = .ok (.iaload, 1) := by decide +kernel
theorem dL_law_1113 : decode cL_law 1113 = .ok (.aload_n 0, 1) := by decide +kernel
theorem dL_law_1114 : decode cL_law 1114 = .ok (.iload 5, 2) := by decide +kernel
theorem dL_law_1116 : decode cL_law 1116 = .ok (.iconst 3, 1) := by decide +kernel
theorem dL_law_1117 : decode cL_law 1117 = .ok (.iadd, 1) := by decide +kernel
theorem dL_law_1118 : decode cL_law 1118 = .ok (.iaload, 1) := by decide +kernel
theorem dL_law_1119 : decode cL_law 1119 = .ok (.aload_n 3, 1) := by decide +kernel
theorem dL_law_1120 : decode cL_law 1120 = .ok (.invokestatic 183, 3) := by decide +kernel
theorem dL_law_1123 : decode cL_law 1123 = .ok (.istore 6, 2) := by decide +kernel
theorem dL_law_1125 : decode cL_law 1125 = .ok (.aload_n 2, 1) := by decide +kernel
theorem dL_law_1126 : decode cL_law 1126 = .ok (.aload_n 0, 1) := by decide +kernel
theorem dL_law_1127 : decode cL_law 1127 = .ok (.iload 5, 2) := by decide +kernel
theorem dL_law_1129 : decode cL_law 1129 = .ok (.iconst 1, 1) := by decide +kernel
theorem dL_law_1130 : decode cL_law 1130 = .ok (.iadd, 1) := by decide +kernel
theorem dL_law_1131 : decode cL_law 1131 = .ok (.iaload, 1) := by decide +kernel
theorem dL_law_1132 : decode cL_law 1132 = .ok (.aload_n 0, 1) := by decide +kernel
theorem dL_law_1133 : decode cL_law 1133 = .ok (.iload 5, 2) := by decide +kernel
theorem dL_law_1135 : decode cL_law 1135 = .ok (.iconst 2, 1) := by decide +kernel
theorem dL_law_1136 : decode cL_law 1136 = .ok (.iadd, 1) := by decide +kernel
theorem dL_law_1137 : decode cL_law 1137 = .ok (.iaload, 1) := by decide +kernel
theorem dL_law_1138 : decode cL_law 1138 = .ok (.aload_n 0, 1) := by decide +kernel
theorem dL_law_1139 : decode cL_law 1139 = .ok (.iload 5, 2) := by decide +kernel
theorem dL_law_1141 : decode cL_law 1141 = .ok (.iconst 3, 1) := by decide +kernel
theorem dL_law_1142 : decode cL_law 1142 = .ok (.iadd, 1) := by decide +kernel
theorem dL_law_1143 : decode cL_law 1143 = .ok (.iaload, 1) := by decide +kernel
theorem dL_law_1144 : decode cL_law 1144 = .ok (.invokevirtual 185, 3) := by decide +kernel
theorem dL_law_1147 : decode cL_law 1147 = .ok (.istore 7, 2) := by decide +kernel
theorem dL_law_1149 : decode cL_law 1149 = .ok (.aload_n 2, 1) := by decide +kernel
theorem dL_law_1150 : decode cL_law 1150 = .ok (.invokevirtual 141, 3) := by decide +kernel
theorem dL_law_1153 : decode cL_law 1153 = .ok (.iload 6, 2) := by decide +kernel
theorem dL_law_1155 : decode cL_law 1155 = .ok (.if_icmp .eq 5, 3) := by decide +kernel
theorem dL_law_1160 : decode cL_law 1160 = .ok (.iload 6, 2) := by decide +kernel
theorem dL_law_1162 : decode cL_law 1162 = .ok (.ifCond .ne 15, 3) := by decide +kernel
theorem dL_law_1177 : decode cL_law 1177 = .ok (.goto 1280, 3) := by decide +kernel
theorem dL_law_1180 : decode cL_law 1180 = .ok (.aload_n 1, 1) := by decide +kernel
theorem dL_law_1181 : decode cL_law 1181 = .ok (.aload_n 0, 1) := by decide +kernel
theorem dL_law_1182 : decode cL_law 1182 = .ok (.iload 5, 2) := by decide +kernel
theorem dL_law_1184 : decode cL_law 1184 = .ok (.iconst 1, 1) := by decide +kernel
theorem dL_law_1185 : decode cL_law 1185 = .ok (.iadd, 1) := by decide +kernel
theorem dL_law_1186 : decode cL_law 1186 = .ok (.iaload, 1) := by decide +kernel
theorem dL_law_1187 : decode cL_law 1187 = .ok (.aload_n 0, 1) := by decide +kernel
theorem dL_law_1188 : decode cL_law 1188 = .ok (.iload 5, 2) := by decide +kernel
theorem dL_law_1190 : decode cL_law 1190 = .ok (.iconst 2, 1) := by decide +kernel
theorem dL_law_1191 : decode cL_law 1191 = .ok (.iadd, 1) := by decide +kernel
theorem dL_law_1192 : decode cL_law 1192 = .ok (.iaload, 1) := by decide +kernel
theorem dL_law_1193 : decode cL_law 1193 = .ok (.aload_n 3, 1) := by decide +kernel
theorem dL_law_1194 : decode cL_law 1194 = .ok (.invokestatic 186, 3) := by decide +kernel
theorem dL_law_1197 : decode cL_law 1197 = .ok (.istore 6, 2) := by decide +kernel
theorem dL_law_1199 : decode cL_law 1199 = .ok (.aload_n 2, 1) := by decide +kernel
theorem dL_law_1200 : decode cL_law 1200 = .ok (.aload_n 0, 1) := by decide +kernel
theorem dL_law_1201 : decode cL_law 1201 = .ok (.iload 5, 2) := by decide +kernel
theorem dL_law_1203 : decode cL_law 1203 = .ok (.iconst 1, 1) := by decide +kernel
theorem dL_law_1204 : decode cL_law 1204 = .ok (.iadd, 1) := by decide +kernel
theorem dL_law_1205 : decode cL_law 1205 = .ok (.iaload, 1) := by decide +kernel
theorem dL_law_1206 : decode cL_law 1206 = .ok (.aload_n 0, 1) := by decide +kernel
theorem dL_law_1207 : decode cL_law 1207 = .ok (.iload 5, 2) := by decide +kernel
theorem dL_law_1209 : decode cL_law 1209 = .ok (.iconst 2, 1) := by decide +kernel
theorem dL_law_1210 : decode cL_law 1210 = .ok (.iadd, 1) := by decide +kernel
theorem dL_law_1211 : decode cL_law 1211 = .ok (.iaload, 1) := by decide +kernel
theorem dL_law_1212 : decode cL_law 1212 = .ok (.invokevirtual 188, 3) := by decide +kernel
theorem dL_law_1215 : decode cL_law 1215 = .ok (.istore 7, 2) := by decide +kernel
theorem dL_law_1217 : decode cL_law 1217 = .ok (.aload_n 2, 1) := by decide +kernel
theorem dL_law_1218 : decode cL_law 1218 = .ok (.invokevirtual 141, 3) := by decide +kernel
theorem dL_law_1221 : decode cL_law 1221 = .ok (.iload 6, 2) := by decide +kernel
theorem dL_law_1223 : decode cL_law 1223 = .ok (.if_icmp .eq 5, 3) := by decide +kernel
theorem dL_law_1228 : decode cL_law 1228 = .ok (.iload 6, 2) := by decide +kernel
theorem dL_law_1230 : decode cL_law 1230 = .ok (.ifCond .ne 15, 3) := by decide +kernel
theorem dL_law_1245 : decode cL_law 1245 = .ok (.goto 1212, 3) := by decide +kernel
theorem dL_law_1248 : decode cL_law 1248 = .ok (.aload_n 1, 1) := by decide +kernel
theorem dL_law_1249 : decode cL_law 1249 = .ok (.aload_n 0, 1) := by decide +kernel
theorem dL_law_1250 : decode cL_law 1250 = .ok (.iload 5, 2) := by decide +kernel
theorem dL_law_1252 : decode cL_law 1252 = .ok (.iconst 1, 1) := by decide +kernel
theorem dL_law_1253 : decode cL_law 1253 = .ok (.iadd, 1) := by decide +kernel
theorem dL_law_1254 : decode cL_law 1254 = .ok (.iaload, 1) := by decide +kernel
theorem dL_law_1255 : decode cL_law 1255 = .ok (.aload_n 0, 1) := by decide +kernel
theorem dL_law_1256 : decode cL_law 1256 = .ok (.iload 5, 2) := by decide +kernel
theorem dL_law_1258 : decode cL_law 1258 = .ok (.iconst 2, 1) := by decide +kernel
theorem dL_law_1259 : decode cL_law 1259 = .ok (.iadd, 1) := by decide +kernel
theorem dL_law_1260 : decode cL_law 1260 = .ok (.iaload, 1) := by decide +kernel
theorem dL_law_1261 : decode cL_law 1261 = .ok (.aload_n 3, 1) := by decide +kernel
theorem dL_law_1262 : decode cL_law 1262 = .ok (.invokestatic 189, 3) := by decide +kernel
theorem dL_law_1265 : decode cL_law 1265 = .ok (.istore 6, 2) := by decide +kernel
theorem dL_law_1267 : decode cL_law 1267 = .ok (.aload_n 2, 1) := by decide +kernel
theorem dL_law_1268 : decode cL_law 1268 = .ok (.aload_n 0, 1) := by decide +kernel
theorem dL_law_1269 : decode cL_law 1269 = .ok (.iload 5, 2) := by decide +kernel
theorem dL_law_1271 : decode cL_law 1271 = .ok (.iconst 1, 1) := by decide +kernel
theorem dL_law_1272 : decode cL_law 1272 = .ok (.iadd, 1) := by decide +kernel
theorem dL_law_1273 : decode cL_law 1273 = .ok (.iaload, 1) := by decide +kernel
theorem dL_law_1274 : decode cL_law 1274 = .ok (.aload_n 0, 1) := by decide +kernel
theorem dL_law_1275 : decode cL_law 1275 = .ok (.iload 5, 2) := by decide +kernel
theorem dL_law_1277 : decode cL_law 1277 = .ok (.iconst 2, 1) := by decide +kernel
theorem dL_law_1278 : decode cL_law 1278 = .ok (.iadd, 1) := by decide +kernel
theorem dL_law_1279 : decode cL_law 1279 = .ok (.iaload, 1) := by decide +kernel
theorem dL_law_1280 : decode cL_law 1280 = .ok (.invokevirtual 191, 3) := by decide +kernel
theorem dL_law_1283 : decode cL_law 1283 = .ok (.istore 7, 2) := by decide +kernel
theorem dL_law_1285 : decode cL_law 1285 = .ok (.aload_n 2, 1) := by decide +kernel
theorem dL_law_1286 : decode cL_law 1286 = .ok (.invokevirtual 141, 3) := by decide +kernel
theorem dL_law_1289 : decode cL_law 1289 = .ok (.iload 6, 2) := by decide +kernel
theorem dL_law_1291 : decode cL_law 1291 = .ok (.if_icmp .eq 5, 3) := by decide +kernel
theorem dL_law_1296 : decode cL_law 1296 = .ok (.iload 6, 2) := by decide +kernel
theorem dL_law_1298 : decode cL_law 1298 = .ok (.ifCond .ne 15, 3) := by decide +kernel
theorem dL_law_1313 : decode cL_law 1313 = .ok (.goto 1144, 3) := by decide +kernel
theorem dL_law_1316 : decode cL_law 1316 = .ok (.aload_n 1, 1) := by decide +kernel
theorem dL_law_1317 : decode cL_law 1317 = .ok (.aload_n 0, 1) := by decide +kernel
theorem dL_law_1318 : decode cL_law 1318 = .ok (.iload 5, 2) := by decide +kernel
theorem dL_law_1320 : decode cL_law 1320 = .ok (.iconst 1, 1) := by decide +kernel
theorem dL_law_1321 : decode cL_law 1321 = .ok (.iadd, 1) := by decide +kernel
theorem dL_law_1322 : decode cL_law 1322 = .ok (.iaload, 1) := by decide +kernel
theorem dL_law_1323 : decode cL_law 1323 = .ok (.aload_n 0, 1) := by decide +kernel
theorem dL_law_1324 : decode cL_law 1324 = .ok (.iload 5, 2) := by decide +kernel
theorem dL_law_1326 : decode cL_law 1326 = .ok (.iconst 2, 1) := by decide +kernel
theorem dL_law_1327 : decode cL_law 1327 = .ok (.iadd, 1) := by decide +kernel
theorem dL_law_1328 : decode cL_law 1328 = .ok (.iaload, 1) := by decide +kernel
theorem dL_law_1329 : decode cL_law 1329 = .ok (.aload_n 3, 1) := by decide +kernel
theorem dL_law_1330 : decode cL_law 1330 = .ok (.invokestatic 192, 3) := by decide +kernel
theorem dL_law_1333 : decode cL_law 1333 = .ok (.istore 6, 2) := by decide +kernel
theorem dL_law_1335 : decode cL_law 1335 = .ok (.aload_n 2, 1) := by decide +kernel
theorem dL_law_1336 : decode cL_law 1336 = .ok (.aload_n 0, 1) := by decide +kernel
theorem dL_law_1337 : decode cL_law 1337 = .ok (.iload 5, 2) := by decide +kernel
theorem dL_law_1339 : decode cL_law 1339 = .ok (.iconst 1, 1) := by decide +kernel
theorem dL_law_1340 : decode cL_law 1340 = .ok (.iadd, 1) := by decide +kernel
theorem dL_law_1341 : decode cL_law 1341 = .ok (.iaload, 1) := by decide +kernel
theorem dL_law_1342 : decode cL_law 1342 = .ok (.aload_n 0, 1) := by decide +kernel
theorem dL_law_1343 : decode cL_law 1343 = .ok (.iload 5, 2) := by decide +kernel
theorem dL_law_1345 : decode cL_law 1345 = .ok (.iconst 2, 1) := by decide +kernel
theorem dL_law_1346 : decode cL_law 1346 = .ok (.iadd, 1) := by decide +kernel
theorem dL_law_1347 : decode cL_law 1347 = .ok (.iaload, 1) := by decide +kernel
theorem dL_law_1348 : decode cL_law 1348 = .ok (.invokevirtual 194, 3) := by decide +kernel
theorem dL_law_1351 : decode cL_law 1351 = .ok (.istore 7, 2) := by decide +kernel
theorem dL_law_1353 : decode cL_law 1353 = .ok (.aload_n 2, 1) := by decide +kernel
theorem dL_law_1354 : decode cL_law 1354 = .ok (.invokevirtual 141, 3) := by decide +kernel
theorem dL_law_1357 : decode cL_law 1357 = .ok (.iload 6, 2) := by decide +kernel
theorem dL_law_1359 : decode cL_law 1359 = .ok (.if_icmp .eq 5, 3) := by decide +kernel
theorem dL_law_1364 : decode cL_law 1364 = .ok (.iload 6, 2) := by decide +kernel
theorem dL_law_1366 : decode cL_law 1366 = .ok (.ifCond .ne 15, 3) := by decide +kernel
theorem dL_law_1381 : decode cL_law 1381 = .ok (.goto 1076, 3) := by decide +kernel
theorem dL_law_1384 : decode cL_law 1384 = .ok (.aload_n 1, 1) := by decide +kernel
theorem dL_law_1385 : decode cL_law 1385 = .ok (.aload_n 0, 1) := by decide +kernel
theorem dL_law_1386 : decode cL_law 1386 = .ok (.iload 5, 2) := by decide +kernel
theorem dL_law_1388 : decode cL_law 1388 = .ok (.iconst 1, 1) := by decide +kernel
theorem dL_law_1389 : decode cL_law 1389 = .ok (.iadd, 1) := by decide +kernel
theorem dL_law_1390 : decode cL_law 1390 = .ok (.iaload, 1) := by decide +kernel
theorem dL_law_1391 : decode cL_law 1391 = .ok (.aload_n 0, 1) := by decide +kernel
theorem dL_law_1392 : decode cL_law 1392 = .ok (.iload 5, 2) := by decide +kernel
theorem dL_law_1394 : decode cL_law 1394 = .ok (.iconst 2, 1) := by decide +kernel
theorem dL_law_1395 : decode cL_law 1395 = .ok (.iadd, 1) := by decide +kernel
theorem dL_law_1396 : decode cL_law 1396 = .ok (.iaload, 1) := by decide +kernel
theorem dL_law_1397 : decode cL_law 1397 = .ok (.aload_n 3, 1) := by decide +kernel
theorem dL_law_1398 : decode cL_law 1398 = .ok (.invokestatic 195, 3) := by decide +kernel
theorem dL_law_1452 : decode cL_law 1452 = .ok (.aload_n 1, 1) := by decide +kernel
theorem dL_law_1453 : decode cL_law 1453 = .ok (.aload_n 0, 1) := by decide +kernel
theorem dL_law_1454 : decode cL_law 1454 = .ok (.iload 5, 2) := by decide +kernel
theorem dL_law_1456 : decode cL_law 1456 = .ok (.iconst 1, 1) := by decide +kernel
theorem dL_law_1457 : decode cL_law 1457 = .ok (.iadd, 1) := by decide +kernel
theorem dL_law_1458 : decode cL_law 1458 = .ok (.iaload, 1) := by decide +kernel
theorem dL_law_1459 : decode cL_law 1459 = .ok (.aload_n 0, 1) := by decide +kernel
theorem dL_law_1460 : decode cL_law 1460 = .ok (.iload 5, 2) := by decide +kernel
theorem dL_law_1462 : decode cL_law 1462 = .ok (.iconst 2, 1) := by decide +kernel
theorem dL_law_1463 : decode cL_law 1463 = .ok (.iadd, 1) := by decide +kernel
theorem dL_law_1464 : decode cL_law 1464 = .ok (.iaload, 1) := by decide +kernel
theorem dL_law_1465 : decode cL_law 1465 = .ok (.aload_n 3, 1) := by decide +kernel
theorem dL_law_1466 : decode cL_law 1466 = .ok (.invokestatic 198, 3) := by decide +kernel
theorem dL_law_1469 : decode cL_law 1469 = .ok (.istore 6, 2) := by decide +kernel
theorem dL_law_1471 : decode cL_law 1471 = .ok (.aload_n 2, 1) := by decide +kernel
theorem dL_law_1472 : decode cL_law 1472 = .ok (.aload_n 0, 1) := by decide +kernel
theorem dL_law_1473 : decode cL_law 1473 = .ok (.iload 5, 2) := by decide +kernel
theorem dL_law_1475 : decode cL_law 1475 = .ok (.iconst 1, 1) := by decide +kernel
theorem dL_law_1476 : decode cL_law 1476 = .ok (.iadd, 1) := by decide +kernel
theorem dL_law_1477 : decode cL_law 1477 = .ok (.iaload, 1) := by decide +kernel
theorem dL_law_1478 : decode cL_law 1478 = .ok (.aload_n 0, 1) := by decide +kernel
theorem dL_law_1479 : decode cL_law 1479 = .ok (.iload 5, 2) := by decide +kernel
theorem dL_law_1481 : decode cL_law 1481 = .ok (.iconst 2, 1) := by decide +kernel
theorem dL_law_1482 : decode cL_law 1482 = .ok (.iadd, 1) := by decide +kernel
theorem dL_law_1483 : decode cL_law 1483 = .ok (.iaload, 1) := by decide +kernel
theorem dL_law_1484 : decode cL_law 1484 = .ok (.invokevirtual 200, 3) := by decide +kernel
theorem dL_law_1487 : decode cL_law 1487 = .ok (.istore 7, 2) := by decide +kernel
theorem dL_law_1489 : decode cL_law 1489 = .ok (.aload_n 2, 1) := by decide +kernel
theorem dL_law_1490 : decode cL_law 1490 = .ok (.invokevirtual 141, 3) := by decide +kernel
theorem dL_law_1493 : decode cL_law 1493 = .ok (.iload 6, 2) := by decide +kernel
theorem dL_law_1495 : decode cL_law 1495 = .ok (.if_icmp .eq 5, 3) := by decide +kernel
theorem dL_law_1500 : decode cL_law 1500 = .ok (.iload 6, 2) := by decide +kernel
theorem dL_law_1502 : decode cL_law 1502 = .ok (.ifCond .ne 15, 3) := by decide +kernel
theorem dL_law_1517 : decode cL_law 1517 = .ok (.goto 940, 3) := by decide +kernel
theorem dL_law_1520 : decode cL_law 1520 = .ok (.aload_n 1, 1) := by decide +kernel
theorem dL_law_1521 : decode cL_law 1521 = .ok (.aload_n 0, 1) := by decide +kernel
theorem dL_law_1522 : decode cL_law 1522 = .ok (.iload 5, 2) := by decide +kernel
theorem dL_law_1524 : decode cL_law 1524 = .ok (.iconst 1, 1) := by decide +kernel
theorem dL_law_1525 : decode cL_law 1525 = .ok (.iadd, 1) := by decide +kernel
theorem dL_law_1526 : decode cL_law 1526 = .ok (.iaload, 1) := by decide +kernel
theorem dL_law_1527 : decode cL_law 1527 = .ok (.aload_n 0, 1) := by decide +kernel
theorem dL_law_1528 : decode cL_law 1528 = .ok (.iload 5, 2) := by decide +kernel
theorem dL_law_1530 : decode cL_law 1530 = .ok (.iconst 2, 1) := by decide +kernel
theorem dL_law_1531 : decode cL_law 1531 = .ok (.iadd, 1) := by decide +kernel
theorem dL_law_1532 : decode cL_law 1532 = .ok (.iaload, 1) := by decide +kernel
theorem dL_law_1533 : decode cL_law 1533 = .ok (.aload_n 3, 1) := by decide +kernel
theorem dL_law_1534 : decode cL_law 1534 = .ok (.invokestatic 201, 3) := by decide +kernel
theorem dL_law_1537 : decode cL_law 1537 = .ok (.istore 6, 2) := by decide +kernel
theorem dL_law_1539 : decode cL_law 1539 = .ok (.aload_n 2, 1) := by decide +kernel
theorem dL_law_1540 : decode cL_law 1540 = .ok (.aload_n 0, 1) := by decide +kernel
theorem dL_law_1541 : decode cL_law 1541 = .ok (.iload 5, 2) := by decide +kernel
theorem dL_law_1543 : decode cL_law 1543 = .ok (.iconst 1, 1) := by decide +kernel
theorem dL_law_1544 : decode cL_law 1544 = .ok (.iadd, 1) := by decide +kernel
theorem dL_law_1545 : decode cL_law 1545 = .ok (.iaload, 1) := by decide +kernel
theorem dL_law_1546 : decode cL_law 1546 = .ok (.aload_n 0, 1) := by decide +kernel
theorem dL_law_1547 : decode cL_law 1547 = .ok (.iload 5, 2) := by decide +kernel
theorem dL_law_1549 : decode cL_law 1549 = .ok (.iconst 2, 1) := by decide +kernel
theorem dL_law_1550 : decode cL_law 1550 = .ok (.iadd, 1) := by decide +kernel
theorem dL_law_1551 : decode cL_law 1551 = .ok (.iaload, 1) := by decide +kernel
theorem dL_law_1552 : decode cL_law 1552 = .ok (.invokevirtual 203, 3) := by decide +kernel
theorem dL_law_1555 : decode cL_law 1555 = .ok (.istore 7, 2) := by decide +kernel
theorem dL_law_1557 : decode cL_law 1557 = .ok (.aload_n 2, 1) := by decide +kernel
theorem dL_law_1558 : decode cL_law 1558 = .ok (.invokevirtual 141, 3) := by decide +kernel
theorem dL_law_1561 : decode cL_law 1561 = .ok (.iload 6, 2) := by decide +kernel
theorem dL_law_1563 : decode cL_law 1563 = .ok (.if_icmp .eq 5, 3) := by decide +kernel
theorem dL_law_1568 : decode cL_law 1568 = .ok (.iload 6, 2) := by decide +kernel
theorem dL_law_1570 : decode cL_law 1570 = .ok (.ifCond .ne 15, 3) := by decide +kernel
theorem dL_law_1585 : decode cL_law 1585 = .ok (.goto 872, 3) := by decide +kernel
theorem dL_law_1588 : decode cL_law 1588 = .ok (.aload_n 1, 1) := by decide +kernel
theorem dL_law_1589 : decode cL_law 1589 = .ok (.aload_n 0, 1) := by decide +kernel
theorem dL_law_1590 : decode cL_law 1590 = .ok (.iload 5, 2) := by decide +kernel
theorem dL_law_1592 : decode cL_law 1592 = .ok (.iconst 1, 1) := by decide +kernel
theorem dL_law_1593 : decode cL_law 1593 = .ok (.iadd, 1) := by decide +kernel
theorem dL_law_1594 : decode cL_law 1594 = .ok (.iaload, 1) := by decide +kernel
theorem dL_law_1595 : decode cL_law 1595 = .ok (.aload_n 3, 1) := by decide +kernel
theorem dL_law_1596 : decode cL_law 1596 = .ok (.invokestatic 204, 3) := by decide +kernel
theorem dL_law_1599 : decode cL_law 1599 = .ok (.istore 6, 2) := by decide +kernel
theorem dL_law_1601 : decode cL_law 1601 = .ok (.aload_n 2, 1) := by decide +kernel
theorem dL_law_1602 : decode cL_law 1602 = .ok (.aload_n 0, 1) := by decide +kernel
theorem dL_law_1603 : decode cL_law 1603 = .ok (.iload 5, 2) := by decide +kernel
theorem dL_law_1605 : decode cL_law 1605 = .ok (.iconst 1, 1) := by decide +kernel
theorem dL_law_1606 : decode cL_law 1606 = .ok (.iadd, 1) := by decide +kernel
theorem dL_law_1607 : decode cL_law 1607 = .ok (.iaload, 1) := by decide +kernel
theorem dL_law_1608 : decode cL_law 1608 = .ok (.invokevirtual 206, 3) := by decide +kernel
theorem dL_law_1611 : decode cL_law 1611 = .ok (.istore 7, 2) := by decide +kernel
theorem dL_law_1613 : decode cL_law 1613 = .ok (.aload_n 2, 1) := by decide +kernel
theorem dL_law_1614 : decode cL_law 1614 = .ok (.invokevirtual 141, 3) := by decide +kernel
theorem dL_law_1617 : decode cL_law 1617 = .ok (.iload 6, 2) := by decide +kernel
theorem dL_law_1619 : decode cL_law 1619 = .ok (.if_icmp .eq 5, 3) := by decide +kernel
theorem dL_law_1624 : decode cL_law 1624 = .ok (.iload 6, 2) := by decide +kernel
theorem dL_law_1626 : decode cL_law 1626 = .ok (.ifCond .ne 15, 3) := by decide +kernel
theorem dL_law_1629 : decode cL_law 1629 = .ok (.aload_n 3, 1) := by decide +kernel
theorem dL_law_1630 : decode cL_law 1630 = .ok (.iconst 0, 1) := by decide +kernel
theorem dL_law_1631 : decode cL_law 1631 = .ok (.laload, 1) := by decide +kernel
theorem dL_law_1632 : decode cL_law 1632 = .ok (.iload 7, 2) := by decide +kernel
theorem dL_law_1634 : decode cL_law 1634 = .ok (.i2l, 1) := by decide +kernel
theorem dL_law_1635 : decode cL_law 1635 = .ok (.lcmp, 1) := by decide +kernel
theorem dL_law_1636 : decode cL_law 1636 = .ok (.ifCond .eq 5, 3) := by decide +kernel
theorem dL_law_1641 : decode cL_law 1641 = .ok (.goto 816, 3) := by decide +kernel
theorem dL_law_1644 : decode cL_law 1644 = .ok (.aload_n 1, 1) := by decide +kernel
theorem dL_law_1645 : decode cL_law 1645 = .ok (.aload_n 0, 1) := by decide +kernel
theorem dL_law_1646 : decode cL_law 1646 = .ok (.iload 5, 2) := by decide +kernel
theorem dL_law_1648 : decode cL_law 1648 = .ok (.iconst 1, 1) := by decide +kernel
theorem dL_law_1649 : decode cL_law 1649 = .ok (.iadd, 1) := by decide +kernel
theorem dL_law_1650 : decode cL_law 1650 = .ok (.iaload, 1) := by decide +kernel
theorem dL_law_1651 : decode cL_law 1651 = .ok (.aload_n 0, 1) := by decide +kernel
theorem dL_law_1652 : decode cL_law 1652 = .ok (.iload 5, 2) := by decide +kernel
theorem dL_law_1654 : decode cL_law 1654 = .ok (.iconst 2, 1) := by decide +kernel
theorem dL_law_1655 : decode cL_law 1655 = .ok (.iadd, 1) := by decide +kernel
theorem dL_law_1656 : decode cL_law 1656 = .ok (.iaload, 1) := by decide +kernel
theorem dL_law_1657 : decode cL_law 1657 = .ok (.aload_n 0, 1) := by decide +kernel
theorem dL_law_1658 : decode cL_law 1658 = .ok (.iload 5, 2) := by decide +kernel
theorem dL_law_1660 : decode cL_law 1660 = .ok (.iconst 3, 1) := by decide +kernel
theorem dL_law_1661 : decode cL_law 1661 = .ok (.iadd, 1) := by decide +kernel
theorem dL_law_1662 : decode cL_law 1662 = .ok (.iaload, 1) := by decide +kernel
theorem dL_law_1663 : decode cL_law 1663 = .ok (.aload_n 3, 1) := by decide +kernel
theorem dL_law_1664 : decode cL_law 1664 = .ok (.invokestatic 207, 3) := by decide +kernel
theorem dL_law_1667 : decode cL_law 1667 = .ok (.istore 6, 2) := by decide +kernel
theorem dL_law_1669 : decode cL_law 1669 = .ok (.aload_n 2, 1) := by decide +kernel
theorem dL_law_1670 : decode cL_law 1670 = .ok (.aload_n 0, 1) := by decide +kernel
theorem dL_law_1671 : decode cL_law 1671 = .ok (.iload 5, 2) := by decide +kernel
theorem dL_law_1673 : decode cL_law 1673 = .ok (.iconst 1, 1) := by decide +kernel
theorem dL_law_1674 : decode cL_law 1674 = .ok (.iadd, 1) := by decide +kernel
theorem dL_law_1675 : decode cL_law 1675 = .ok (.iaload, 1) := by decide +kernel
theorem dL_law_1676 : decode cL_law 1676 = .ok (.aload_n 0, 1) := by decide +kernel
theorem dL_law_1677 : decode cL_law 1677 = .ok (.iload 5, 2) := by decide +kernel
theorem dL_law_1679 : decode cL_law 1679 = .ok (.iconst 2, 1) := by decide +kernel
theorem dL_law_1680 : decode cL_law 1680 = .ok (.iadd, 1) := by decide +kernel
theorem dL_law_1681 : decode cL_law 1681 = .ok (.iaload, 1) := by decide +kernel
theorem dL_law_1682 : decode cL_law 1682 = .ok (.aload_n 0, 1) := by decide +kernel
theorem dL_law_1683 : decode cL_law 1683 = .ok (.iload 5, 2) := by decide +kernel
theorem dL_law_1685 : decode cL_law 1685 = .ok (.iconst 3, 1) := by decide +kernel
theorem dL_law_1686 : decode cL_law 1686 = .ok (.iadd, 1) := by decide +kernel
theorem dL_law_1687 : decode cL_law 1687 = .ok (.iaload, 1) := by decide +kernel
theorem dL_law_1688 : decode cL_law 1688 = .ok (.invokevirtual 209, 3) := by decide +kernel
theorem dL_law_1691 : decode cL_law 1691 = .ok (.istore 7, 2) := by decide +kernel
theorem dL_law_1693 : decode cL_law 1693 = .ok (.aload_n 2, 1) := by decide +kernel
theorem dL_law_1694 : decode cL_law 1694 = .ok (.invokevirtual 141, 3) := by decide +kernel
theorem dL_law_1697 : decode cL_law 1697 = .ok (.iload 6, 2) := by decide +kernel
theorem dL_law_1699 : decode cL_law 1699 = .ok (.if_icmp .eq 5, 3) := by decide +kernel
theorem dL_law_1704 : decode cL_law 1704 = .ok (.iload 6, 2) := by decide +kernel
theorem dL_law_1706 : decode cL_law 1706 = .ok (.ifCond .ne 15, 3) := by decide +kernel
theorem dL_law_1721 : decode cL_law 1721 = .ok (.goto 736, 3) := by decide +kernel
theorem dL_law_1724 : decode cL_law 1724 = .ok (.aload_n 1, 1) := by decide +kernel
theorem dL_law_1725 : decode cL_law 1725 = .ok (.aload_n 0, 1) := by decide +kernel
theorem dL_law_1726 : decode cL_law 1726 = .ok (.iload 5, 2) := by decide +kernel
theorem dL_law_1728 : decode cL_law 1728 = .ok (.iconst 1, 1) := by decide +kernel
theorem dL_law_1729 : decode cL_law 1729 = .ok (.iadd, 1) := by decide +kernel
theorem dL_law_1730 : decode cL_law 1730 = .ok (.iaload, 1) := by decide +kernel
theorem dL_law_1731 : decode cL_law 1731 = .ok (.aload_n 0, 1) := by decide +kernel
theorem dL_law_1732 : decode cL_law 1732 = .ok (.iload 5, 2) := by decide +kernel
theorem dL_law_1734 : decode cL_law 1734 = .ok (.iconst 2, 1) := by decide +kernel
theorem dL_law_1735 : decode cL_law 1735 = .ok (.iadd, 1) := by decide +kernel
theorem dL_law_1736 : decode cL_law 1736 = .ok (.iaload, 1) := by decide +kernel
theorem dL_law_1737 : decode cL_law 1737 = .ok (.aload_n 3, 1) := by decide +kernel
theorem dL_law_1738 : decode cL_law 1738 = .ok (.invokestatic 210, 3) := by decide +kernel
theorem dL_law_1741 : decode cL_law 1741 = .ok (.istore 6, 2) := by decide +kernel
theorem dL_law_1743 : decode cL_law 1743 = .ok (.aload_n 2, 1) := by decide +kernel
theorem dL_law_1744 : decode cL_law 1744 = .ok (.aload_n 0, 1) := by decide +kernel
theorem dL_law_1745 : decode cL_law 1745 = .ok (.iload 5, 2) := by decide +kernel
theorem dL_law_1747 : decode cL_law 1747 = .ok (.iconst 1, 1) := by decide +kernel
theorem dL_law_1748 : decode cL_law 1748 = .ok (.iadd, 1) := by decide +kernel
theorem dL_law_1749 : decode cL_law 1749 = .ok (.iaload, 1) := by decide +kernel
theorem dL_law_1750 : decode cL_law 1750 = .ok (.aload_n 0, 1) := by decide +kernel
theorem dL_law_1751 : decode cL_law 1751 = .ok (.iload 5, 2) := by decide +kernel
theorem dL_law_1753 : decode cL_law 1753 = .ok (.iconst 2, 1) := by decide +kernel
theorem dL_law_1754 : decode cL_law 1754 = .ok (.iadd, 1) := by decide +kernel
theorem dL_law_1755 : decode cL_law 1755 = .ok (.iaload, 1) := by decide +kernel
theorem dL_law_1756 : decode cL_law 1756 = .ok (.invokevirtual 212, 3) := by decide +kernel
theorem dL_law_1759 : decode cL_law 1759 = .ok (.istore 7, 2) := by decide +kernel
theorem dL_law_1761 : decode cL_law 1761 = .ok (.aload_n 2, 1) := by decide +kernel
theorem dL_law_1762 : decode cL_law 1762 = .ok (.invokevirtual 141, 3) := by decide +kernel
theorem dL_law_1765 : decode cL_law 1765 = .ok (.iload 6, 2) := by decide +kernel
theorem dL_law_1767 : decode cL_law 1767 = .ok (.if_icmp .eq 5, 3) := by decide +kernel
theorem dL_law_1772 : decode cL_law 1772 = .ok (.iload 6, 2) := by decide +kernel
theorem dL_law_1774 : decode cL_law 1774 = .ok (.ifCond .ne 15, 3) := by decide +kernel
theorem dL_law_1789 : decode cL_law 1789 = .ok (.goto 668, 3) := by decide +kernel
theorem dL_law_1792 : decode cL_law 1792 = .ok (.aload_n 1, 1) := by decide +kernel
theorem dL_law_1793 : decode cL_law 1793 = .ok (.aload_n 0, 1) := by decide +kernel
theorem dL_law_1794 : decode cL_law 1794 = .ok (.iload 5, 2) := by decide +kernel
theorem dL_law_1796 : decode cL_law 1796 = .ok (.iconst 1, 1) := by decide +kernel
theorem dL_law_1797 : decode cL_law 1797 = .ok (.iadd, 1) := by decide +kernel
theorem dL_law_1798 : decode cL_law 1798 = .ok (.iaload, 1) := by decide +kernel
theorem dL_law_1799 : decode cL_law 1799 = .ok (.aload_n 3, 1) := by decide +kernel
theorem dL_law_1800 : decode cL_law 1800 = .ok (.invokestatic 213, 3) := by decide +kernel
theorem dL_law_1803 : decode cL_law 1803 = .ok (.istore 6, 2) := by decide +kernel
theorem dL_law_1805 : decode cL_law 1805 = .ok (.aload_n 2, 1) := by decide +kernel
theorem dL_law_1806 : decode cL_law 1806 = .ok (.aload_n 0, 1) := by decide +kernel
theorem dL_law_1807 : decode cL_law 1807 = .ok (.iload 5, 2) := by decide +kernel
theorem dL_law_1809 : decode cL_law 1809 = .ok (.iconst 1, 1) := by decide +kernel
theorem dL_law_1810 : decode cL_law 1810 = .ok (.iadd, 1) := by decide +kernel
theorem dL_law_1811 : decode cL_law 1811 = .ok (.iaload, 1) := by decide +kernel
theorem dL_law_1812 : decode cL_law 1812 = .ok (.invokevirtual 215, 3) := by decide +kernel
theorem dL_law_1815 : decode cL_law 1815 = .ok (.istore 7, 2) := by decide +kernel
theorem dL_law_1817 : decode cL_law 1817 = .ok (.aload_n 2, 1) := by decide +kernel
theorem dL_law_1818 : decode cL_law 1818 = .ok (.invokevirtual 141, 3) := by decide +kernel
theorem dL_law_1821 : decode cL_law 1821 = .ok (.iload 6, 2) := by decide +kernel
theorem dL_law_1823 : decode cL_law 1823 = .ok (.if_icmp .eq 5, 3) := by decide +kernel
theorem dL_law_1828 : decode cL_law 1828 = .ok (.iload 6, 2) := by decide +kernel
theorem dL_law_1830 : decode cL_law 1830 = .ok (.ifCond .ne 15, 3) := by decide +kernel
theorem dL_law_1845 : decode cL_law 1845 = .ok (.goto 612, 3) := by decide +kernel
theorem dL_law_1848 : decode cL_law 1848 = .ok (.aload_n 1, 1) := by decide +kernel
theorem dL_law_1849 : decode cL_law 1849 = .ok (.invokevirtual 216, 3) := by decide +kernel
theorem dL_law_1852 : decode cL_law 1852 = .ok (.aload_n 2, 1) := by decide +kernel
theorem dL_law_1853 : decode cL_law 1853 = .ok (.invokevirtual 219, 3) := by decide +kernel
theorem dL_law_1856 : decode cL_law 1856 = .ok (.if_icmp .eq 601, 3) := by decide +kernel
theorem dL_law_1861 : decode cL_law 1861 = .ok (.aload_n 1, 1) := by decide +kernel
theorem dL_law_1862 : decode cL_law 1862 = .ok (.aload_n 0, 1) := by decide +kernel
theorem dL_law_1863 : decode cL_law 1863 = .ok (.iload 5, 2) := by decide +kernel
theorem dL_law_1865 : decode cL_law 1865 = .ok (.iconst 1, 1) := by decide +kernel
theorem dL_law_1866 : decode cL_law 1866 = .ok (.iadd, 1) := by decide +kernel
theorem dL_law_1867 : decode cL_law 1867 = .ok (.iaload, 1) := by decide +kernel
theorem dL_law_1868 : decode cL_law 1868 = .ok (.aload_n 3, 1) := by decide +kernel
theorem dL_law_1869 : decode cL_law 1869 = .ok (.invokestatic 220, 3) := by decide +kernel
theorem dL_law_1872 : decode cL_law 1872 = .ok (.istore 6, 2) := by decide +kernel
theorem dL_law_1874 : decode cL_law 1874 = .ok (.aload_n 2, 1) := by decide +kernel
theorem dL_law_1875 : decode cL_law 1875 = .ok (.aload_n 0, 1) := by decide +kernel
theorem dL_law_1876 : decode cL_law 1876 = .ok (.iload 5, 2) := by decide +kernel
theorem dL_law_1878 : decode cL_law 1878 = .ok (.iconst 1, 1) := by decide +kernel
theorem dL_law_1879 : decode cL_law 1879 = .ok (.iadd, 1) := by decide +kernel
theorem dL_law_1880 : decode cL_law 1880 = .ok (.iaload, 1) := by decide +kernel
theorem dL_law_1881 : decode cL_law 1881 = .ok (.invokevirtual 222, 3) := by decide +kernel
theorem dL_law_1884 : decode cL_law 1884 = .ok (.istore 7, 2) := by decide +kernel
theorem dL_law_1886 : decode cL_law 1886 = .ok (.aload_n 2, 1) := by decide +kernel
theorem dL_law_1887 : decode cL_law 1887 = .ok (.invokevirtual 141, 3) := by decide +kernel
theorem dL_law_1890 : decode cL_law 1890 = .ok (.iload 6, 2) := by decide +kernel
theorem dL_law_1892 : decode cL_law 1892 = .ok (.if_icmp .eq 5, 3) := by decide +kernel
theorem dL_law_1897 : decode cL_law 1897 = .ok (.iload 6, 2) := by decide +kernel
theorem dL_law_1899 : decode cL_law 1899 = .ok (.ifCond .ne 15, 3) := by decide +kernel
theorem dL_law_1902 : decode cL_law 1902 = .ok (.aload_n 3, 1) := by decide +kernel
theorem dL_law_1903 : decode cL_law 1903 = .ok (.iconst 0, 1) := by decide +kernel
theorem dL_law_1904 : decode cL_law 1904 = .ok (.laload, 1) := by decide +kernel
theorem dL_law_1905 : decode cL_law 1905 = .ok (.iload 7, 2) := by decide +kernel
theorem dL_law_1907 : decode cL_law 1907 = .ok (.i2l, 1) := by decide +kernel
theorem dL_law_1908 : decode cL_law 1908 = .ok (.lcmp, 1) := by decide +kernel
theorem dL_law_1909 : decode cL_law 1909 = .ok (.ifCond .eq 5, 3) := by decide +kernel
theorem dL_law_1914 : decode cL_law 1914 = .ok (.goto 543, 3) := by decide +kernel
theorem dL_law_1917 : decode cL_law 1917 = .ok (.aload_n 1, 1) := by decide +kernel
theorem dL_law_1918 : decode cL_law 1918 = .ok (.aload_n 0, 1) := by decide +kernel
theorem dL_law_1919 : decode cL_law 1919 = .ok (.iload 5, 2) := by decide +kernel
theorem dL_law_1921 : decode cL_law 1921 = .ok (.iconst 1, 1) := by decide +kernel
theorem dL_law_1922 : decode cL_law 1922 = .ok (.iadd, 1) := by decide +kernel
theorem dL_law_1923 : decode cL_law 1923 = .ok (.iaload, 1) := by decide +kernel
theorem dL_law_1924 : decode cL_law 1924 = .ok (.aload_n 0, 1) := by decide +kernel
theorem dL_law_1925 : decode cL_law 1925 = .ok (.iload 5, 2) := by decide +kernel
theorem dL_law_1927 : decode cL_law 1927 = .ok (.iconst 2, 1) := by decide +kernel
theorem dL_law_1928 : decode cL_law 1928 = .ok (.iadd, 1) := by decide +kernel
theorem dL_law_1929 : decode cL_law 1929 = .ok (.iaload, 1) := by decide +kernel
theorem dL_law_1930 : decode cL_law 1930 = .ok (.aload_n 3, 1) := by decide +kernel
theorem dL_law_1931 : decode cL_law 1931 = .ok (.invokestatic 223, 3) := by decide +kernel
theorem dL_law_1934 : decode cL_law 1934 = .ok (.istore 6, 2) := by decide +kernel
theorem dL_law_1936 : decode cL_law 1936 = .ok (.aload_n 2, 1) := by decide +kernel
theorem dL_law_1937 : decode cL_law 1937 = .ok (.aload_n 0, 1) := by decide +kernel
theorem dL_law_1938 : decode cL_law 1938 = .ok (.iload 5, 2) := by decide +kernel
theorem dL_law_1940 : decode cL_law 1940 = .ok (.iconst 1, 1) := by decide +kernel
theorem dL_law_1941 : decode cL_law 1941 = .ok (.iadd, 1) := by decide +kernel
theorem dL_law_1942 : decode cL_law 1942 = .ok (.iaload, 1) := by decide +kernel
theorem dL_law_1943 : decode cL_law 1943 = .ok (.aload_n 0, 1) := by decide +kernel
theorem dL_law_1944 : decode cL_law 1944 = .ok (.iload 5, 2) := by decide +kernel
theorem dL_law_1946 : decode cL_law 1946 = .ok (.iconst 2, 1) := by decide +kernel
theorem dL_law_1947 : decode cL_law 1947 = .ok (.iadd, 1) := by decide +kernel
theorem dL_law_1948 : decode cL_law 1948 = .ok (.iaload, 1) := by decide +kernel
theorem dL_law_1949 : decode cL_law 1949 = .ok (.invokevirtual 225, 3) := by decide +kernel
theorem dL_law_1952 : decode cL_law 1952 = .ok (.istore 7, 2) := by decide +kernel
theorem dL_law_1954 : decode cL_law 1954 = .ok (.aload_n 2, 1) := by decide +kernel
theorem dL_law_1955 : decode cL_law 1955 = .ok (.invokevirtual 141, 3) := by decide +kernel
theorem dL_law_1958 : decode cL_law 1958 = .ok (.iload 6, 2) := by decide +kernel
theorem dL_law_1960 : decode cL_law 1960 = .ok (.if_icmp .eq 5, 3) := by decide +kernel
theorem dL_law_1965 : decode cL_law 1965 = .ok (.iload 6, 2) := by decide +kernel
theorem dL_law_1967 : decode cL_law 1967 = .ok (.ifCond .ne 15, 3) := by decide +kernel
theorem dL_law_1970 : decode cL_law 1970 = .ok (.aload_n 3, 1) := by decide +kernel
theorem dL_law_1971 : decode cL_law 1971 = .ok (.iconst 0, 1) := by decide +kernel
theorem dL_law_1972 : decode cL_law 1972 = .ok (.laload, 1) := by decide +kernel
theorem dL_law_1973 : decode cL_law 1973 = .ok (.iload 7, 2) := by decide +kernel
theorem dL_law_1975 : decode cL_law 1975 = .ok (.i2l, 1) := by decide +kernel
theorem dL_law_1976 : decode cL_law 1976 = .ok (.lcmp, 1) := by decide +kernel
theorem dL_law_1977 : decode cL_law 1977 = .ok (.ifCond .eq 5, 3) := by decide +kernel
theorem dL_law_1982 : decode cL_law 1982 = .ok (.goto 475, 3) := by decide +kernel
theorem dL_law_1985 : decode cL_law 1985 = .ok (.aload_n 1, 1) := by decide +kernel
theorem dL_law_1986 : decode cL_law 1986 = .ok (.aload_n 0, 1) := by decide +kernel
theorem dL_law_1987 : decode cL_law 1987 = .ok (.iload 5, 2) := by decide +kernel
theorem dL_law_1989 : decode cL_law 1989 = .ok (.iconst 1, 1) := by decide +kernel
theorem dL_law_1990 : decode cL_law 1990 = .ok (.iadd, 1) := by decide +kernel
theorem dL_law_1991 : decode cL_law 1991 = .ok (.iaload, 1) := by decide +kernel
theorem dL_law_1992 : decode cL_law 1992 = .ok (.aload 4, 2) := by decide +kernel
theorem dL_law_1994 : decode cL_law 1994 = .ok (.invokestatic 226, 3) := by decide +kernel
theorem dL_law_1997 : decode cL_law 1997 = .ok (.istore 6, 2) := by decide +kernel
theorem dL_law_1999 : decode cL_law 1999 = .ok (.aload_n 2, 1) := by decide +kernel
theorem dL_law_2000 : decode cL_law 2000 = .ok (.aload_n 0, 1) := by decide +kernel
theorem dL_law_2001 : decode cL_law 2001 = .ok (.iload 5, 2) := by decide +kernel
theorem dL_law_2003 : decode cL_law 2003 = .ok (.iconst 1, 1) := by decide +kernel
theorem dL_law_2004 : decode cL_law 2004 = .ok (.iadd, 1) := by decide +kernel
theorem dL_law_2005 : decode cL_law 2005 = .ok (.iaload, 1) := by decide +kernel
theorem dL_law_2006 : decode cL_law 2006 = .ok (.invokevirtual 229, 3) := by decide +kernel
theorem dL_law_2009 : decode cL_law 2009 = .ok (.dstore 7, 2) := by decide +kernel
theorem dL_law_2011 : decode cL_law 2011 = .ok (.aload_n 2, 1) := by decide +kernel
theorem dL_law_2012 : decode cL_law 2012 = .ok (.invokevirtual 141, 3) := by decide +kernel
theorem dL_law_2015 : decode cL_law 2015 = .ok (.iload 6, 2) := by decide +kernel
theorem dL_law_2017 : decode cL_law 2017 = .ok (.if_icmp .eq 5, 3) := by decide +kernel
theorem dL_law_2022 : decode cL_law 2022 = .ok (.iload 6, 2) := by decide +kernel
theorem dL_law_2024 : decode cL_law 2024 = .ok (.ifCond .ne 35, 3) := by decide +kernel
theorem dL_law_2059 : decode cL_law 2059 = .ok (.goto 398, 3) := by decide +kernel
theorem dL_law_2062 : decode cL_law 2062 = .ok (.aload_n 1, 1) := by decide +kernel
theorem dL_law_2063 : decode cL_law 2063 = .ok (.aload_n 0, 1) := by decide +kernel
theorem dL_law_2064 : decode cL_law 2064 = .ok (.iload 5, 2) := by decide +kernel
theorem dL_law_2066 : decode cL_law 2066 = .ok (.iconst 1, 1) := by decide +kernel
theorem dL_law_2067 : decode cL_law 2067 = .ok (.iadd, 1) := by decide +kernel
theorem dL_law_2068 : decode cL_law 2068 = .ok (.iaload, 1) := by decide +kernel
theorem dL_law_2069 : decode cL_law 2069 = .ok (.aload_n 0, 1) := by decide +kernel
theorem dL_law_2070 : decode cL_law 2070 = .ok (.iload 5, 2) := by decide +kernel
theorem dL_law_2072 : decode cL_law 2072 = .ok (.iconst 2, 1) := by decide +kernel
theorem dL_law_2073 : decode cL_law 2073 = .ok (.iadd, 1) := by decide +kernel
theorem dL_law_2074 : decode cL_law 2074 = .ok (.iaload, 1) := by decide +kernel
theorem dL_law_2075 : decode cL_law 2075 = .ok (.aload_n 3, 1) := by decide +kernel
theorem dL_law_2076 : decode cL_law 2076 = .ok (.invokestatic 230, 3) := by decide +kernel
theorem dL_law_2130 : decode cL_law 2130 = .ok (.aload_n 1, 1) := by decide +kernel
theorem dL_law_2131 : decode cL_law 2131 = .ok (.aload_n 0, 1) := by decide +kernel
theorem dL_law_2132 : decode cL_law 2132 = .ok (.iload 5, 2) := by decide +kernel
theorem dL_law_2134 : decode cL_law 2134 = .ok (.iconst 1, 1) := by decide +kernel
theorem dL_law_2135 : decode cL_law 2135 = .ok (.iadd, 1) := by decide +kernel
theorem dL_law_2136 : decode cL_law 2136 = .ok (.iaload, 1) := by decide +kernel
theorem dL_law_2137 : decode cL_law 2137 = .ok (.i2c, 1) := by decide +kernel
theorem dL_law_2138 : decode cL_law 2138 = .ok (.aload_n 3, 1) := by decide +kernel
theorem dL_law_2139 : decode cL_law 2139 = .ok (.invokestatic 233, 3) := by decide +kernel
theorem dL_law_2142 : decode cL_law 2142 = .ok (.istore 6, 2) := by decide +kernel
theorem dL_law_2144 : decode cL_law 2144 = .ok (.aload_n 2, 1) := by decide +kernel
theorem dL_law_2145 : decode cL_law 2145 = .ok (.aload_n 0, 1) := by decide +kernel
theorem dL_law_2146 : decode cL_law 2146 = .ok (.iload 5, 2) := by decide +kernel
theorem dL_law_2148 : decode cL_law 2148 = .ok (.iconst 1, 1) := by decide +kernel
theorem dL_law_2149 : decode cL_law 2149 = .ok (.iadd, 1) := by decide +kernel
theorem dL_law_2150 : decode cL_law 2150 = .ok (.iaload, 1) := by decide +kernel
theorem dL_law_2151 : decode cL_law 2151 = .ok (.i2c, 1) := by decide +kernel
theorem dL_law_2152 : decode cL_law 2152 = .ok (.invokevirtual 236, 3) := by decide +kernel
theorem dL_law_2155 : decode cL_law 2155 = .ok (.istore 7, 2) := by decide +kernel
theorem dL_law_2157 : decode cL_law 2157 = .ok (.aload_n 2, 1) := by decide +kernel
theorem dL_law_2158 : decode cL_law 2158 = .ok (.invokevirtual 141, 3) := by decide +kernel
theorem dL_law_2161 : decode cL_law 2161 = .ok (.iload 6, 2) := by decide +kernel
theorem dL_law_2163 : decode cL_law 2163 = .ok (.if_icmp .eq 5, 3) := by decide +kernel
theorem dL_law_2168 : decode cL_law 2168 = .ok (.iload 6, 2) := by decide +kernel
theorem dL_law_2170 : decode cL_law 2170 = .ok (.ifCond .ne 15, 3) := by decide +kernel
theorem dL_law_2173 : decode cL_law 2173 = .ok (.aload_n 3, 1) := by decide +kernel
theorem dL_law_2174 : decode cL_law 2174 = .ok (.iconst 0, 1) := by decide +kernel
theorem dL_law_2175 : decode cL_law 2175 = .ok (.laload, 1) := by decide +kernel
theorem dL_law_2176 : decode cL_law 2176 = .ok (.iload 7, 2) := by decide +kernel
theorem dL_law_2178 : decode cL_law 2178 = .ok (.i2l, 1) := by decide +kernel
theorem dL_law_2179 : decode cL_law 2179 = .ok (.lcmp, 1) := by decide +kernel
theorem dL_law_2180 : decode cL_law 2180 = .ok (.ifCond .eq 5, 3) := by decide +kernel
theorem dL_law_2185 : decode cL_law 2185 = .ok (.goto 272, 3) := by decide +kernel
theorem dL_law_2188 : decode cL_law 2188 = .ok (.aload_n 1, 1) := by decide +kernel
theorem dL_law_2189 : decode cL_law 2189 = .ok (.aload_n 0, 1) := by decide +kernel
theorem dL_law_2190 : decode cL_law 2190 = .ok (.iload 5, 2) := by decide +kernel
theorem dL_law_2192 : decode cL_law 2192 = .ok (.iconst 1, 1) := by decide +kernel
theorem dL_law_2193 : decode cL_law 2193 = .ok (.iadd, 1) := by decide +kernel
theorem dL_law_2194 : decode cL_law 2194 = .ok (.iaload, 1) := by decide +kernel
theorem dL_law_2195 : decode cL_law 2195 = .ok (.aload_n 3, 1) := by decide +kernel
theorem dL_law_2196 : decode cL_law 2196 = .ok (.invokestatic 237, 3) := by decide +kernel
theorem dL_law_2199 : decode cL_law 2199 = .ok (.istore 6, 2) := by decide +kernel
theorem dL_law_2201 : decode cL_law 2201 = .ok (.aload_n 2, 1) := by decide +kernel
theorem dL_law_2202 : decode cL_law 2202 = .ok (.aload_n 0, 1) := by decide +kernel
theorem dL_law_2203 : decode cL_law 2203 = .ok (.iload 5, 2) := by decide +kernel
theorem dL_law_2205 : decode cL_law 2205 = .ok (.iconst 1, 1) := by decide +kernel
theorem dL_law_2206 : decode cL_law 2206 = .ok (.iadd, 1) := by decide +kernel
theorem dL_law_2207 : decode cL_law 2207 = .ok (.iaload, 1) := by decide +kernel
theorem dL_law_2208 : decode cL_law 2208 = .ok (.invokevirtual 239, 3) := by decide +kernel
theorem dL_law_2211 : decode cL_law 2211 = .ok (.istore 7, 2) := by decide +kernel
theorem dL_law_2213 : decode cL_law 2213 = .ok (.aload_n 2, 1) := by decide +kernel
theorem dL_law_2214 : decode cL_law 2214 = .ok (.invokevirtual 141, 3) := by decide +kernel
theorem dL_law_2217 : decode cL_law 2217 = .ok (.iload 6, 2) := by decide +kernel
theorem dL_law_2219 : decode cL_law 2219 = .ok (.if_icmp .eq 5, 3) := by decide +kernel
theorem dL_law_2224 : decode cL_law 2224 = .ok (.iload 6, 2) := by decide +kernel
theorem dL_law_2226 : decode cL_law 2226 = .ok (.ifCond .ne 15, 3) := by decide +kernel
theorem dL_law_2229 : decode cL_law 2229 = .ok (.aload_n 3, 1) := by decide +kernel
theorem dL_law_2230 : decode cL_law 2230 = .ok (.iconst 0, 1) := by decide +kernel
theorem dL_law_2231 : decode cL_law 2231 = .ok (.laload, 1) := by decide +kernel
theorem dL_law_2232 : decode cL_law 2232 = .ok (.iload 7, 2) := by decide +kernel
theorem dL_law_2234 : decode cL_law 2234 = .ok (.i2l, 1) := by decide +kernel
theorem dL_law_2235 : decode cL_law 2235 = .ok (.lcmp, 1) := by decide +kernel
theorem dL_law_2236 : decode cL_law 2236 = .ok (.ifCond .eq 5, 3) := by decide +kernel
theorem dL_law_2241 : decode cL_law 2241 = .ok (.goto 216, 3) := by decide +kernel
theorem dL_law_2244 : decode cL_law 2244 = .ok (.aload_n 1, 1) := by decide +kernel
theorem dL_law_2245 : decode cL_law 2245 = .ok (.aload_n 0, 1) := by decide +kernel
theorem dL_law_2246 : decode cL_law 2246 = .ok (.iload 5, 2) := by decide +kernel
theorem dL_law_2248 : decode cL_law 2248 = .ok (.iconst 1, 1) := by decide +kernel
theorem dL_law_2249 : decode cL_law 2249 = .ok (.iadd, 1) := by decide +kernel
theorem dL_law_2250 : decode cL_law 2250 = .ok (.iaload, 1) := by decide +kernel
theorem dL_law_2251 : decode cL_law 2251 = .ok (.aload_n 3, 1) := by decide +kernel
theorem dL_law_2252 : decode cL_law 2252 = .ok (.invokestatic 240, 3) := by decide +kernel
theorem dL_law_2255 : decode cL_law 2255 = .ok (.istore 6, 2) := by decide +kernel
theorem dL_law_2257 : decode cL_law 2257 = .ok (.aload_n 2, 1) := by decide +kernel
theorem dL_law_2258 : decode cL_law 2258 = .ok (.aload_n 0, 1) := by decide +kernel
theorem dL_law_2259 : decode cL_law 2259 = .ok (.iload 5, 2) := by decide +kernel
theorem dL_law_2261 : decode cL_law 2261 = .ok (.iconst 1, 1) := by decide +kernel
theorem dL_law_2262 : decode cL_law 2262 = .ok (.iadd, 1) := by decide +kernel
theorem dL_law_2263 : decode cL_law 2263 = .ok (.iaload, 1) := by decide +kernel
theorem dL_law_2264 : decode cL_law 2264 = .ok (.invokevirtual 242, 3) := by decide +kernel
theorem dL_law_2267 : decode cL_law 2267 = .ok (.istore 7, 2) := by decide +kernel
theorem dL_law_2269 : decode cL_law 2269 = .ok (.aload_n 2, 1) := by decide +kernel
theorem dL_law_2270 : decode cL_law 2270 = .ok (.invokevirtual 141, 3) := by decide +kernel
theorem dL_law_2273 : decode cL_law 2273 = .ok (.iload 6, 2) := by decide +kernel
theorem dL_law_2275 : decode cL_law 2275 = .ok (.if_icmp .eq 5, 3) := by decide +kernel
theorem dL_law_2280 : decode cL_law 2280 = .ok (.iload 6, 2) := by decide +kernel
theorem dL_law_2282 : decode cL_law 2282 = .ok (.ifCond .ne 15, 3) := by decide +kernel
theorem dL_law_2285 : decode cL_law 2285 = .ok (.aload_n 3, 1) := by decide +kernel
theorem dL_law_2286 : decode cL_law 2286 = .ok (.iconst 0, 1) := by decide +kernel
theorem dL_law_2287 : decode cL_law 2287 = .ok (.laload, 1) := by decide +kernel
theorem dL_law_2288 : decode cL_law 2288 = .ok (.iload 7, 2) := by decide +kernel
theorem dL_law_2290 : decode cL_law 2290 = .ok (.i2l, 1) := by decide +kernel
theorem dL_law_2291 : decode cL_law 2291 = .ok (.lcmp, 1) := by decide +kernel
theorem dL_law_2292 : decode cL_law 2292 = .ok (.ifCond .eq 5, 3) := by decide +kernel
theorem dL_law_2297 : decode cL_law 2297 = .ok (.goto 160, 3) := by decide +kernel
theorem dL_law_2300 : decode cL_law 2300 = .ok (.aload_n 1, 1) := by decide +kernel
theorem dL_law_2301 : decode cL_law 2301 = .ok (.aload_n 0, 1) := by decide +kernel
theorem dL_law_2302 : decode cL_law 2302 = .ok (.iload 5, 2) := by decide +kernel
theorem dL_law_2304 : decode cL_law 2304 = .ok (.iconst 1, 1) := by decide +kernel
theorem dL_law_2305 : decode cL_law 2305 = .ok (.iadd, 1) := by decide +kernel
theorem dL_law_2306 : decode cL_law 2306 = .ok (.iaload, 1) := by decide +kernel
theorem dL_law_2307 : decode cL_law 2307 = .ok (.aload_n 3, 1) := by decide +kernel
theorem dL_law_2308 : decode cL_law 2308 = .ok (.invokestatic 243, 3) := by decide +kernel
theorem dL_law_2311 : decode cL_law 2311 = .ok (.istore 6, 2) := by decide +kernel
theorem dL_law_2313 : decode cL_law 2313 = .ok (.aload_n 2, 1) := by decide +kernel
theorem dL_law_2314 : decode cL_law 2314 = .ok (.aload_n 0, 1) := by decide +kernel
theorem dL_law_2315 : decode cL_law 2315 = .ok (.iload 5, 2) := by decide +kernel
theorem dL_law_2317 : decode cL_law 2317 = .ok (.iconst 1, 1) := by decide +kernel
theorem dL_law_2318 : decode cL_law 2318 = .ok (.iadd, 1) := by decide +kernel
theorem dL_law_2319 : decode cL_law 2319 = .ok (.iaload, 1) := by decide +kernel
theorem dL_law_2320 : decode cL_law 2320 = .ok (.invokevirtual 245, 3) := by decide +kernel
theorem dL_law_2323 : decode cL_law 2323 = .ok (.istore 7, 2) := by decide +kernel
theorem dL_law_2325 : decode cL_law 2325 = .ok (.aload_n 2, 1) := by decide +kernel
theorem dL_law_2326 : decode cL_law 2326 = .ok (.invokevirtual 141, 3) := by decide +kernel
theorem dL_law_2329 : decode cL_law 2329 = .ok (.iload 6, 2) := by decide +kernel
theorem dL_law_2331 : decode cL_law 2331 = .ok (.if_icmp .eq 5, 3) := by decide +kernel
theorem dL_law_2336 : decode cL_law 2336 = .ok (.iload 6, 2) := by decide +kernel
theorem dL_law_2338 : decode cL_law 2338 = .ok (.ifCond .ne 15, 3) := by decide +kernel
theorem dL_law_2353 : decode cL_law 2353 = .ok (.goto 104, 3) := by decide +kernel
theorem dL_law_2356 : decode cL_law 2356 = .ok (.aload_n 1, 1) := by decide +kernel
theorem dL_law_2357 : decode cL_law 2357 = .ok (.aload_n 3, 1) := by decide +kernel
theorem dL_law_2358 : decode cL_law 2358 = .ok (.invokestatic 246, 3) := by decide +kernel
theorem dL_law_2361 : decode cL_law 2361 = .ok (.istore 6, 2) := by decide +kernel
theorem dL_law_2363 : decode cL_law 2363 = .ok (.aload_n 2, 1) := by decide +kernel
theorem dL_law_2364 : decode cL_law 2364 = .ok (.invokevirtual 249, 3) := by decide +kernel
theorem dL_law_2367 : decode cL_law 2367 = .ok (.istore 7, 2) := by decide +kernel
theorem dL_law_2369 : decode cL_law 2369 = .ok (.aload_n 2, 1) := by decide +kernel
theorem dL_law_2370 : decode cL_law 2370 = .ok (.invokevirtual 141, 3) := by decide +kernel
theorem dL_law_2373 : decode cL_law 2373 = .ok (.iload 6, 2) := by decide +kernel
theorem dL_law_2375 : decode cL_law 2375 = .ok (.if_icmp .eq 5, 3) := by decide +kernel
theorem dL_law_2380 : decode cL_law 2380 = .ok (.iload 6, 2) := by decide +kernel
theorem dL_law_2382 : decode cL_law 2382 = .ok (.ifCond .ne 15, 3) := by decide +kernel
theorem dL_law_2397 : decode cL_law 2397 = .ok (.goto 60, 3) := by decide +kernel
theorem dL_law_2400 : decode cL_law 2400 = .ok (.aload_n 1, 1) := by decide +kernel
theorem dL_law_2401 : decode cL_law 2401 = .ok (.invokevirtual 250, 3) := by decide +kernel
theorem dL_law_2404 : decode cL_law 2404 = .ok (.aload_n 2, 1) := by decide +kernel
theorem dL_law_2405 : decode cL_law 2405 = .ok (.invokevirtual 253, 3) := by decide +kernel
theorem dL_law_2408 : decode cL_law 2408 = .ok (.if_icmp .eq 49, 3) := by decide +kernel
theorem dL_law_2413 : decode cL_law 2413 = .ok (.aload_n 1, 1) := by decide +kernel
theorem dL_law_2414 : decode cL_law 2414 = .ok (.aload_n 3, 1) := by decide +kernel
theorem dL_law_2415 : decode cL_law 2415 = .ok (.invokestatic 254, 3) := by decide +kernel
theorem dL_law_2418 : decode cL_law 2418 = .ok (.istore 6, 2) := by decide +kernel
theorem dL_law_2420 : decode cL_law 2420 = .ok (.aload_n 2, 1) := by decide +kernel
theorem dL_law_2421 : decode cL_law 2421 = .ok (.invokevirtual 256, 3) := by decide +kernel
theorem dL_law_2424 : decode cL_law 2424 = .ok (.istore 7, 2) := by decide +kernel
theorem dL_law_2426 : decode cL_law 2426 = .ok (.aload_n 2, 1) := by decide +kernel
theorem dL_law_2427 : decode cL_law 2427 = .ok (.invokevirtual 141, 3) := by decide +kernel
theorem dL_law_2430 : decode cL_law 2430 = .ok (.iload 6, 2) := by decide +kernel
theorem dL_law_2432 : decode cL_law 2432 = .ok (.if_icmp .eq 5, 3) := by decide +kernel
theorem dL_law_2437 : decode cL_law 2437 = .ok (.iload 6, 2) := by decide +kernel
theorem dL_law_2439 : decode cL_law 2439 = .ok (.ifCond .ne 15, 3) := by decide +kernel
theorem dL_law_2454 : decode cL_law 2454 = .ok (.goto 3, 3) := by decide +kernel
theorem fq_130 (x0 x1 x2 x3 x4 : Int32) (h0 : (x0 = 0 ∧ ((1 ≤ x1 ∧ x1 ≤ 3) ∧ 0 ≤ x2 ∧ ((x1 = 1 ∧ x2 ≤ 0) ∨ (¬ (x1 = 1) ∧ x2 ≤ 20)) ∧ (x3 = (-1) ∨ ((0 ≤ x3 ∧ x3 ≤ 9999) ∧ (0 ≤ x4 ∧ x4 ≤ 9999) ∧ x3 ≤ x4))))) : x0 = 0 := by first | decide | (simp only [fz_lt, fz_le, fz_eq, true_and, and_true, false_and, and_false, true_or, or_true, false_or, or_false, not_true_eq_false, not_false_eq_true, fl_m1, fl_0, fl_1, fl_2, fl_3, fl_4, fl_5, fl_6, fl_7, fl_8, fl_9, fl_10, fl_11, fl_20, fl_200, fl_5000, fl_9999] at *; omega) | (simp only [fz_lt, fz_le, fz_eq, true_and, and_true, false_and, and_false, true_or, or_true, false_or, or_false, not_true_eq_false, not_false_eq_true, fl_m1, fl_0, fl_1, fl_2, fl_3, fl_4, fl_5, fl_6, fl_7, fl_8, fl_9, fl_10, fl_11, fl_20, fl_200, fl_5000, fl_9999] at *; done) | omega
theorem fq_131 (x0 x1 x2 x3 : Int32) (h0 : ((0 : Int32) = 0 ∧ ((1 ≤ x0 ∧ x0 ≤ 3) ∧ 0 ≤ x1 ∧ ((x0 = 1 ∧ x1 ≤ 0) ∨ (¬ (x0 = 1) ∧ x1 ≤ 20)) ∧ (x2 = (-1) ∨ ((0 ≤ x2 ∧ x2 ≤ 9999) ∧ (0 ≤ x3 ∧ x3 ≤ 9999) ∧ x2 ≤ x3))))) (h1 : ((0 : Int32) = 0 ∧ ¬ (((1 ≤ x0 ∧ x0 ≤ 3) ∧ 0 ≤ x1 ∧ ((x0 = 1 ∧ x1 ≤ 0) ∨ (¬ (x0 = 1) ∧ x1 ≤ 20)) ∧ (x2 = (-1) ∨ ((0 ≤ x2 ∧ x2 ≤ 9999) ∧ (0 ≤ x3 ∧ x3 ≤ 9999) ∧ x2 ≤ x3)))))) : False := by first | decide | (simp only [fz_lt, fz_le, fz_eq, true_and, and_true, false_and, and_false, true_or, or_true, false_or, or_false, not_true_eq_false, not_false_eq_true, fl_m1, fl_0, fl_1, fl_2, fl_3, fl_4, fl_5, fl_6, fl_7, fl_8, fl_9, fl_10, fl_11, fl_20, fl_200, fl_5000, fl_9999] at *; omega) | (simp only [fz_lt, fz_le, fz_eq, true_and, and_true, false_and, and_false, true_or, or_true, false_or, or_false, not_true_eq_false, not_false_eq_true, fl_m1, fl_0, fl_1, fl_2, fl_3, fl_4, fl_5, fl_6, fl_7, fl_8, fl_9, fl_10, fl_11, fl_20, fl_200, fl_5000, fl_9999] at *; done) | omega
theorem fq_132 (x0 x1 x2 x3 x4 : Int32) (h0 : ¬ (x0 = 0)) (h1 : (x0 = 0 ∧ ¬ (((1 ≤ x1 ∧ x1 ≤ 3) ∧ 0 ≤ x2 ∧ ((x1 = 1 ∧ x2 ≤ 0) ∨ (¬ (x1 = 1) ∧ x2 ≤ 20)) ∧ (x3 = (-1) ∨ ((0 ≤ x3 ∧ x3 ≤ 9999) ∧ (0 ≤ x4 ∧ x4 ≤ 9999) ∧ x3 ≤ x4)))))) : False := by first | decide | (simp only [fz_lt, fz_le, fz_eq, true_and, and_true, false_and, and_false, true_or, or_true, false_or, or_false, not_true_eq_false, not_false_eq_true, fl_m1, fl_0, fl_1, fl_2, fl_3, fl_4, fl_5, fl_6, fl_7, fl_8, fl_9, fl_10, fl_11, fl_20, fl_200, fl_5000, fl_9999] at *; omega) | (simp only [fz_lt, fz_le, fz_eq, true_and, and_true, false_and, and_false, true_or, or_true, false_or, or_false, not_true_eq_false, not_false_eq_true, fl_m1, fl_0, fl_1, fl_2, fl_3, fl_4, fl_5, fl_6, fl_7, fl_8, fl_9, fl_10, fl_11, fl_20, fl_200, fl_5000, fl_9999] at *; done) | omega
theorem fq_133 (x0 x1 x2 x3 x4 : Int32) (h0 : ¬ (x0 = 0)) (h1 : (x0 = 0 ∧ ((1 ≤ x1 ∧ x1 ≤ 3) ∧ 0 ≤ x2 ∧ ((x1 = 1 ∧ x2 ≤ 0) ∨ (¬ (x1 = 1) ∧ x2 ≤ 20)) ∧ (x3 = (-1) ∨ ((0 ≤ x3 ∧ x3 ≤ 9999) ∧ (0 ≤ x4 ∧ x4 ≤ 9999) ∧ x3 ≤ x4))))) : False := by first | decide | (simp only [fz_lt, fz_le, fz_eq, true_and, and_true, false_and, and_false, true_or, or_true, false_or, or_false, not_true_eq_false, not_false_eq_true, fl_m1, fl_0, fl_1, fl_2, fl_3, fl_4, fl_5, fl_6, fl_7, fl_8, fl_9, fl_10, fl_11, fl_20, fl_200, fl_5000, fl_9999] at *; omega) | (simp only [fz_lt, fz_le, fz_eq, true_and, and_true, false_and, and_false, true_or, or_true, false_or, or_false, not_true_eq_false, not_false_eq_true, fl_m1, fl_0, fl_1, fl_2, fl_3, fl_4, fl_5, fl_6, fl_7, fl_8, fl_9, fl_10, fl_11, fl_20, fl_200, fl_5000, fl_9999] at *; done) | omega
theorem fq_134 (x0 x1 x2 x3 x4 : Int32) (h0 : (x0 = 0 ∧ ¬ (((1 ≤ x1 ∧ x1 ≤ 3) ∧ 0 ≤ x2 ∧ ((x1 = 1 ∧ x2 ≤ 0) ∨ (¬ (x1 = 1) ∧ x2 ≤ 20)) ∧ (x3 = (-1) ∨ ((0 ≤ x3 ∧ x3 ≤ 9999) ∧ (0 ≤ x4 ∧ x4 ≤ 9999) ∧ x3 ≤ x4)))))) : x0 = 0 := by first | decide | (simp only [fz_lt, fz_le, fz_eq, true_and, and_true, false_and, and_false, true_or, or_true, false_or, or_false, not_true_eq_false, not_false_eq_true, fl_m1, fl_0, fl_1, fl_2, fl_3, fl_4, fl_5, fl_6, fl_7, fl_8, fl_9, fl_10, fl_11, fl_20, fl_200, fl_5000, fl_9999] at *; omega) | (simp only [fz_lt, fz_le, fz_eq, true_and, and_true, false_and, and_false, true_or, or_true, false_or, or_false, not_true_eq_false, not_false_eq_true, fl_m1, fl_0, fl_1, fl_2, fl_3, fl_4, fl_5, fl_6, fl_7, fl_8, fl_9, fl_10, fl_11, fl_20, fl_200, fl_5000, fl_9999] at *; done) | omega
theorem fq_135 (x0 x1 x2 x3 : Int32) (h0 : ((0 : Int32) = 0 ∧ ¬ (((1 ≤ x0 ∧ x0 ≤ 3) ∧ 0 ≤ x1 ∧ ((x0 = 1 ∧ x1 ≤ 0) ∨ (¬ (x0 = 1) ∧ x1 ≤ 20)) ∧ (x2 = (-1) ∨ ((0 ≤ x2 ∧ x2 ≤ 9999) ∧ (0 ≤ x3 ∧ x3 ≤ 9999) ∧ x2 ≤ x3)))))) (h1 : ((0 : Int32) = 0 ∧ ((1 ≤ x0 ∧ x0 ≤ 3) ∧ 0 ≤ x1 ∧ ((x0 = 1 ∧ x1 ≤ 0) ∨ (¬ (x0 = 1) ∧ x1 ≤ 20)) ∧ (x2 = (-1) ∨ ((0 ≤ x2 ∧ x2 ≤ 9999) ∧ (0 ≤ x3 ∧ x3 ≤ 9999) ∧ x2 ≤ x3))))) : False := by first | decide | (simp only [fz_lt, fz_le, fz_eq, true_and, and_true, false_and, and_false, true_or, or_true, false_or, or_false, not_true_eq_false, not_false_eq_true, fl_m1, fl_0, fl_1, fl_2, fl_3, fl_4, fl_5, fl_6, fl_7, fl_8, fl_9, fl_10, fl_11, fl_20, fl_200, fl_5000, fl_9999] at *; omega) | (simp only [fz_lt, fz_le, fz_eq, true_and, and_true, false_and, and_false, true_or, or_true, false_or, or_false, not_true_eq_false, not_false_eq_true, fl_m1, fl_0, fl_1, fl_2, fl_3, fl_4, fl_5, fl_6, fl_7, fl_8, fl_9, fl_10, fl_11, fl_20, fl_200, fl_5000, fl_9999] at *; done) | omega
theorem fq_136 (x0 : Int32) (h0 : ¬ (x0 = 0)) (h1 : x0 = 0) : False := by first | decide | (simp only [fz_lt, fz_le, fz_eq, true_and, and_true, false_and, and_false, true_or, or_true, false_or, or_false, not_true_eq_false, not_false_eq_true, fl_m1, fl_0, fl_1, fl_2, fl_3, fl_4, fl_5, fl_6, fl_7, fl_8, fl_9, fl_10, fl_11, fl_20, fl_200, fl_5000, fl_9999] at *; omega) | (simp only [fz_lt, fz_le, fz_eq, true_and, and_true, false_and, and_false, true_or, or_true, false_or, or_false, not_true_eq_false, not_false_eq_true, fl_m1, fl_0, fl_1, fl_2, fl_3, fl_4, fl_5, fl_6, fl_7, fl_8, fl_9, fl_10, fl_11, fl_20, fl_200, fl_5000, fl_9999] at *; done) | omega
theorem fq_137 (x0 x1 : Int32) (h0 : (¬ (x0 = 0) ∨ ¬ (x1 = 0))) (h1 : (x0 = 0 ∧ x1 = 0)) : False := by first | decide | (simp only [fz_lt, fz_le, fz_eq, true_and, and_true, false_and, and_false, true_or, or_true, false_or, or_false, not_true_eq_false, not_false_eq_true, fl_m1, fl_0, fl_1, fl_2, fl_3, fl_4, fl_5, fl_6, fl_7, fl_8, fl_9, fl_10, fl_11, fl_20, fl_200, fl_5000, fl_9999] at *; omega) | (simp only [fz_lt, fz_le, fz_eq, true_and, and_true, false_and, and_false, true_or, or_true, false_or, or_false, not_true_eq_false, not_false_eq_true, fl_m1, fl_0, fl_1, fl_2, fl_3, fl_4, fl_5, fl_6, fl_7, fl_8, fl_9, fl_10, fl_11, fl_20, fl_200, fl_5000, fl_9999] at *; done) | omega
theorem fq_138 (x0 x1 : Int32) (h0 : (x0 = 0 ∧ x1 = 0)) : x0 = 0 := by first | decide | (simp only [fz_lt, fz_le, fz_eq, true_and, and_true, false_and, and_false, true_or, or_true, false_or, or_false, not_true_eq_false, not_false_eq_true, fl_m1, fl_0, fl_1, fl_2, fl_3, fl_4, fl_5, fl_6, fl_7, fl_8, fl_9, fl_10, fl_11, fl_20, fl_200, fl_5000, fl_9999] at *; omega) | (simp only [fz_lt, fz_le, fz_eq, true_and, and_true, false_and, and_false, true_or, or_true, false_or, or_false, not_true_eq_false, not_false_eq_true, fl_m1, fl_0, fl_1, fl_2, fl_3, fl_4, fl_5, fl_6, fl_7, fl_8, fl_9, fl_10, fl_11, fl_20, fl_200, fl_5000, fl_9999] at *; done) | omega
theorem fq_139 (x0 : Int32) (h0 : ((0 : Int32) = 0 ∧ x0 = 0)) : x0 = 0 := by first | decide | (simp only [fz_lt, fz_le, fz_eq, true_and, and_true, false_and, and_false, true_or, or_true, false_or, or_false, not_true_eq_false, not_false_eq_true, fl_m1, fl_0, fl_1, fl_2, fl_3, fl_4, fl_5, fl_6, fl_7, fl_8, fl_9, fl_10, fl_11, fl_20, fl_200, fl_5000, fl_9999] at *; omega) | (simp only [fz_lt, fz_le, fz_eq, true_and, and_true, false_and, and_false, true_or, or_true, false_or, or_false, not_true_eq_false, not_false_eq_true, fl_m1, fl_0, fl_1, fl_2, fl_3, fl_4, fl_5, fl_6, fl_7, fl_8, fl_9, fl_10, fl_11, fl_20, fl_200, fl_5000, fl_9999] at *; done) | omega
theorem fq_140 (h0 : (¬ ((0 : Int32) = 0) ∨ ¬ ((0 : Int32) = 0))) : False := by first | decide | (simp only [fz_lt, fz_le, fz_eq, true_and, and_true, false_and, and_false, true_or, or_true, false_or, or_false, not_true_eq_false, not_false_eq_true, fl_m1, fl_0, fl_1, fl_2, fl_3, fl_4, fl_5, fl_6, fl_7, fl_8, fl_9, fl_10, fl_11, fl_20, fl_200, fl_5000, fl_9999] at *; omega) | (simp only [fz_lt, fz_le, fz_eq, true_and, and_true, false_and, and_false, true_or, or_true, false_or, or_false, not_true_eq_false, not_false_eq_true, fl_m1, fl_0, fl_1, fl_2, fl_3, fl_4, fl_5, fl_6, fl_7, fl_8, fl_9, fl_10, fl_11, fl_20, fl_200, fl_5000, fl_9999] at *; done) | omega
theorem fq_141 (h0 : ((0 : Int32) = 0 ∧ ¬ (((0 : Int32) ≤ 0 ∧ (0 : Int32) ≤ 11)))) : False := by first | decide | (simp only [fz_lt, fz_le, fz_eq, true_and, and_true, false_and, and_false, true_or, or_true, false_or, or_false, not_true_eq_false, not_false_eq_true, fl_m1, fl_0, fl_1, fl_2, fl_3, fl_4, fl_5, fl_6, fl_7, fl_8, fl_9, fl_10, fl_11, fl_20, fl_200, fl_5000, fl_9999] at *; omega) | (simp only [fz_lt, fz_le, fz_eq, true_and, and_true, false_and, and_false, true_or, or_true, false_or, or_false, not_true_eq_false, not_false_eq_true, fl_m1, fl_0, fl_1, fl_2, fl_3, fl_4, fl_5, fl_6, fl_7, fl_8, fl_9, fl_10, fl_11, fl_20, fl_200, fl_5000, fl_9999] at *; done) | omega
theorem fq_142 (h0 : ((0 : Int32) = 0 ∧ (0 : Int32) = 1)) : False := by first | decide | (simp only [fz_lt, fz_le, fz_eq, true_and, and_true, false_and, and_false, true_or, or_true, false_or, or_false, not_true_eq_false, not_false_eq_true, fl_m1, fl_0, fl_1, fl_2, fl_3, fl_4, fl_5, fl_6, fl_7, fl_8, fl_9, fl_10, fl_11, fl_20, fl_200, fl_5000, fl_9999] at *; omega) | (simp only [fz_lt, fz_le, fz_eq, true_and, and_true, false_and, and_false, true_or, or_true, false_or, or_false, not_true_eq_false, not_false_eq_true, fl_m1, fl_0, fl_1, fl_2, fl_3, fl_4, fl_5, fl_6, fl_7, fl_8, fl_9, fl_10, fl_11, fl_20, fl_200, fl_5000, fl_9999] at *; done) | omega
theorem fq_143 (h0 : ((0 : Int32) = 0 ∧ (0 : Int32) = 2)) : False := by first | decide | (simp only [fz_lt, fz_le, fz_eq, true_and, and_true, false_and, and_false, true_or, or_true, false_or, or_false, not_true_eq_false, not_false_eq_true, fl_m1, fl_0, fl_1, fl_2, fl_3, fl_4, fl_5, fl_6, fl_7, fl_8, fl_9, fl_10, fl_11, fl_20, fl_200, fl_5000, fl_9999] at *; omega) | (simp only [fz_lt, fz_le, fz_eq, true_and, and_true, false_and, and_false, true_or, or_true, false_or, or_false, not_true_eq_false, not_false_eq_true, fl_m1, fl_0, fl_1, fl_2, fl_3, fl_4, fl_5, fl_6, fl_7, fl_8, fl_9, fl_10, fl_11, fl_20, fl_200, fl_5000, fl_9999] at *; done) | omega
theorem fq_144 (h0 : ((0 : Int32) = 0 ∧ ((3 : Int32) ≤ 0 ∧ (0 : Int32) ≤ 5))) : False := by first | decide | (simp only [fz_lt, fz_le, fz_eq, true_and, and_true, false_and, and_false, true_or, or_true, false_or, or_false, not_true_eq_false, not_false_eq_true, fl_m1, fl_0, fl_1, fl_2, fl_3, fl_4, fl_5, fl_6, fl_7, fl_8, fl_9, fl_10, fl_11, fl_20, fl_200, fl_5000, fl_9999] at *; omega) | (simp only [fz_lt, fz_le, fz_eq, true_and, and_true, false_and, and_false, true_or, or_true, false_or, or_false, not_true_eq_false, not_false_eq_true, fl_m1, fl_0, fl_1, fl_2, fl_3, fl_4, fl_5, fl_6, fl_7, fl_8, fl_9, fl_10, fl_11, fl_20, fl_200, fl_5000, fl_9999] at *; done) | omega
theorem fq_145 (h0 : ((0 : Int32) = 0 ∧ ((6 : Int32) ≤ 0 ∧ (0 : Int32) ≤ 8))) : False := by first | decide | (simp only [fz_lt, fz_le, fz_eq, true_and, and_true, false_and, and_false, true_or, or_true, false_or, or_false, not_true_eq_false, not_false_eq_true, fl_m1, fl_0, fl_1, fl_2, fl_3, fl_4, fl_5, fl_6, fl_7, fl_8, fl_9, fl_10, fl_11, fl_20, fl_200, fl_5000, fl_9999] at *; omega) | (simp only [fz_lt, fz_le, fz_eq, true_and, and_true, false_and, and_false, true_or, or_true, false_or, or_false, not_true_eq_false, not_false_eq_true, fl_m1, fl_0, fl_1, fl_2, fl_3, fl_4, fl_5, fl_6, fl_7, fl_8, fl_9, fl_10, fl_11, fl_20, fl_200, fl_5000, fl_9999] at *; done) | omega
theorem fq_146 (h0 : ((0 : Int32) = 0 ∧ ((9 : Int32) ≤ 0 ∧ (0 : Int32) ≤ 10))) : False := by first | decide | (simp only [fz_lt, fz_le, fz_eq, true_and, and_true, false_and, and_false, true_or, or_true, false_or, or_false, not_true_eq_false, not_false_eq_true, fl_m1, fl_0, fl_1, fl_2, fl_3, fl_4, fl_5, fl_6, fl_7, fl_8, fl_9, fl_10, fl_11, fl_20, fl_200, fl_5000, fl_9999] at *; omega) | (simp only [fz_lt, fz_le, fz_eq, true_and, and_true, false_and, and_false, true_or, or_true, false_or, or_false, not_true_eq_false, not_false_eq_true, fl_m1, fl_0, fl_1, fl_2, fl_3, fl_4, fl_5, fl_6, fl_7, fl_8, fl_9, fl_10, fl_11, fl_20, fl_200, fl_5000, fl_9999] at *; done) | omega
theorem fq_147 (h0 : ((0 : Int32) = 0 ∧ (0 : Int32) = 11)) : False := by first | decide | (simp only [fz_lt, fz_le, fz_eq, true_and, and_true, false_and, and_false, true_or, or_true, false_or, or_false, not_true_eq_false, not_false_eq_true, fl_m1, fl_0, fl_1, fl_2, fl_3, fl_4, fl_5, fl_6, fl_7, fl_8, fl_9, fl_10, fl_11, fl_20, fl_200, fl_5000, fl_9999] at *; omega) | (simp only [fz_lt, fz_le, fz_eq, true_and, and_true, false_and, and_false, true_or, or_true, false_or, or_false, not_true_eq_false, not_false_eq_true, fl_m1, fl_0, fl_1, fl_2, fl_3, fl_4, fl_5, fl_6, fl_7, fl_8, fl_9, fl_10, fl_11, fl_20, fl_200, fl_5000, fl_9999] at *; done) | omega
theorem fq_148 (x0 x1 : Int32) (h0 : (x0 = 0 ∧ x1 = 1)) : x0 = 0 := by first | decide | (simp only [fz_lt, fz_le, fz_eq, true_and, and_true, false_and, and_false, true_or, or_true, false_or, or_false, not_true_eq_false, not_false_eq_true, fl_m1, fl_0, fl_1, fl_2, fl_3, fl_4, fl_5, fl_6, fl_7, fl_8, fl_9, fl_10, fl_11, fl_20, fl_200, fl_5000, fl_9999] at *; omega) | (simp only [fz_lt, fz_le, fz_eq, true_and, and_true, false_and, and_false, true_or, or_true, false_or, or_false, not_true_eq_false, not_false_eq_true, fl_m1, fl_0, fl_1, fl_2, fl_3, fl_4, fl_5, fl_6, fl_7, fl_8, fl_9, fl_10, fl_11, fl_20, fl_200, fl_5000, fl_9999] at *; done) | omega
theorem fq_149 (x0 : Int32) (h0 : ((0 : Int32) = 0 ∧ x0 = 1)) : x0 = 1 := by first | decide | (simp only [fz_lt, fz_le, fz_eq, true_and, and_true, false_and, and_false, true_or, or_true, false_or, or_false, not_true_eq_false, not_false_eq_true, fl_m1, fl_0, fl_1, fl_2, fl_3, fl_4, fl_5, fl_6, fl_7, fl_8, fl_9, fl_10, fl_11, fl_20, fl_200, fl_5000, fl_9999] at *; omega) | (simp only [fz_lt, fz_le, fz_eq, true_and, and_true, false_and, and_false, true_or, or_true, false_or, or_false, not_true_eq_false, not_false_eq_true, fl_m1, fl_0, fl_1, fl_2, fl_3, fl_4, fl_5, fl_6, fl_7, fl_8, fl_9, fl_10, fl_11, fl_20, fl_200, fl_5000, fl_9999] at *; done) | omega
theorem fq_150 (h0 : ((0 : Int32) = 0 ∧ ¬ (((0 : Int32) ≤ 1 ∧ (1 : Int32) ≤ 11)))) : False := by first | decide | (simp only [fz_lt, fz_le, fz_eq, true_and, and_true, false_and, and_false, true_or, or_true, false_or, or_false, not_true_eq_false, not_false_eq_true, fl_m1, fl_0, fl_1, fl_2, fl_3, fl_4, fl_5, fl_6, fl_7, fl_8, fl_9, fl_10, fl_11, fl_20, fl_200, fl_5000, fl_9999] at *; omega) | (simp only [fz_lt, fz_le, fz_eq, true_and, and_true, false_and, and_false, true_or, or_true, false_or, or_false, not_true_eq_false, not_false_eq_true, fl_m1, fl_0, fl_1, fl_2, fl_3, fl_4, fl_5, fl_6, fl_7, fl_8, fl_9, fl_10, fl_11, fl_20, fl_200, fl_5000, fl_9999] at *; done) | omega
theorem fq_151 (h0 : ((0 : Int32) = 0 ∧ (1 : Int32) = 0)) : False := by first | decide | (simp only [fz_lt, fz_le, fz_eq, true_and, and_true, false_and, and_false, true_or, or_true, false_or, or_false, not_true_eq_false, not_false_eq_true, fl_m1, fl_0, fl_1, fl_2, fl_3, fl_4, fl_5, fl_6, fl_7, fl_8, fl_9, fl_10, fl_11, fl_20, fl_200, fl_5000, fl_9999] at *; omega) | (simp only [fz_lt, fz_le, fz_eq, true_and, and_true, false_and, and_false, true_or, or_true, false_or, or_false, not_true_eq_false, not_false_eq_true, fl_m1, fl_0, fl_1, fl_2, fl_3, fl_4, fl_5, fl_6, fl_7, fl_8, fl_9, fl_10, fl_11, fl_20, fl_200, fl_5000, fl_9999] at *; done) | omega
theorem fq_152 (h0 : ((0 : Int32) = 0 ∧ (1 : Int32) = 2)) : False := by first | decide | (simp only [fz_lt, fz_le, fz_eq, true_and, and_true, false_and, and_false, true_or, or_true, false_or, or_false, not_true_eq_false, not_false_eq_true, fl_m1, fl_0, fl_1, fl_2, fl_3, fl_4, fl_5, fl_6, fl_7, fl_8, fl_9, fl_10, fl_11, fl_20, fl_200, fl_5000, fl_9999] at *; omega) | (simp only [fz_lt, fz_le, fz_eq, true_and, and_true, false_and, and_false, true_or, or_true, false_or, or_false, not_true_eq_false, not_false_eq_true, fl_m1, fl_0, fl_1, fl_2, fl_3, fl_4, fl_5, fl_6, fl_7, fl_8, fl_9, fl_10, fl_11, fl_20, fl_200, fl_5000, fl_9999] at *; done) | omega
theorem fq_153 (h0 : ((0 : Int32) = 0 ∧ ((3 : Int32) ≤ 1 ∧ (1 : Int32) ≤ 5))) : False := by first | decide | (simp only [fz_lt, fz_le, fz_eq, true_and, and_true, false_and, and_false, true_or, or_true, false_or, or_false, not_true_eq_false, not_false_eq_true, fl_m1, fl_0, fl_1, fl_2, fl_3, fl_4, fl_5, fl_6, fl_7, fl_8, fl_9, fl_10, fl_11, fl_20, fl_200, fl_5000, fl_9999] at *; omega) | (simp only [fz_lt, fz_le, fz_eq, true_and, and_true, false_and, and_false, true_or, or_true, false_or, or_false, not_true_eq_false, not_false_eq_true, fl_m1, fl_0, fl_1, fl_2, fl_3, fl_4, fl_5, fl_6, fl_7, fl_8, fl_9, fl_10, fl_11, fl_20, fl_200, fl_5000, fl_9999] at *; done) | omega
theorem fq_154 (h0 : ((0 : Int32) = 0 ∧ ((6 : Int32) ≤ 1 ∧ (1 : Int32) ≤ 8))) : False := by first | decide | (simp only [fz_lt, fz_le, fz_eq, true_and, and_true, false_and, and_false, true_or, or_true, false_or, or_false, not_true_eq_false, not_false_eq_true, fl_m1, fl_0, fl_1, fl_2, fl_3, fl_4, fl_5, fl_6, fl_7, fl_8, fl_9, fl_10, fl_11, fl_20, fl_200, fl_5000, fl_9999] at *; omega) | (simp only [fz_lt, fz_le, fz_eq, true_and, and_true, false_and, and_false, true_or, or_true, false_or, or_false, not_true_eq_false, not_false_eq_true, fl_m1, fl_0, fl_1, fl_2, fl_3, fl_4, fl_5, fl_6, fl_7, fl_8, fl_9, fl_10, fl_11, fl_20, fl_200, fl_5000, fl_9999] at *; done) | omega
theorem fq_155 (h0 : ((0 : Int32) = 0 ∧ ((9 : Int32) ≤ 1 ∧ (1 : Int32) ≤ 10))) : False := by first | decide | (simp only [fz_lt, fz_le, fz_eq, true_and, and_true, false_and, and_false, true_or, or_true, false_or, or_false, not_true_eq_false, not_false_eq_true, fl_m1, fl_0, fl_1, fl_2, fl_3, fl_4, fl_5, fl_6, fl_7, fl_8, fl_9, fl_10, fl_11, fl_20, fl_200, fl_5000, fl_9999] at *; omega) | (simp only [fz_lt, fz_le, fz_eq, true_and, and_true, false_and, and_false, true_or, or_true, false_or, or_false, not_true_eq_false, not_false_eq_true, fl_m1, fl_0, fl_1, fl_2, fl_3, fl_4, fl_5, fl_6, fl_7, fl_8, fl_9, fl_10, fl_11, fl_20, fl_200, fl_5000, fl_9999] at *; done) | omega
theorem fq_156 (h0 : ((0 : Int32) = 0 ∧ (1 : Int32) = 11)) : False := by first | decide | (simp only [fz_lt, fz_le, fz_eq, true_and, and_true, false_and, and_false, true_or, or_true, false_or, or_false, not_true_eq_false, not_false_eq_true, fl_m1, fl_0, fl_1, fl_2, fl_3, fl_4, fl_5, fl_6, fl_7, fl_8, fl_9, fl_10, fl_11, fl_20, fl_200, fl_5000, fl_9999] at *; omega) | (simp only [fz_lt, fz_le, fz_eq, true_and, and_true, false_and, and_false, true_or, or_true, false_or, or_false, not_true_eq_false, not_false_eq_true, fl_m1, fl_0, fl_1, fl_2, fl_3, fl_4, fl_5, fl_6, fl_7, fl_8, fl_9, fl_10, fl_11, fl_20, fl_200, fl_5000, fl_9999] at *; done) | omega
theorem fq_157 (x0 x1 : Int32) (h0 : (x0 = 0 ∧ x1 = 2)) : x0 = 0 := by first | decide | (simp only [fz_lt, fz_le, fz_eq, true_and, and_true, false_and, and_false, true_or, or_true, false_or, or_false, not_true_eq_false, not_false_eq_true, fl_m1, fl_0, fl_1, fl_2, fl_3, fl_4, fl_5, fl_6, fl_7, fl_8, fl_9, fl_10, fl_11, fl_20, fl_200, fl_5000, fl_9999] at *; omega) | (simp only [fz_lt, fz_le, fz_eq, true_and, and_true, false_and, and_false, true_or, or_true, false_or, or_false, not_true_eq_false, not_false_eq_true, fl_m1, fl_0, fl_1, fl_2, fl_3, fl_4, fl_5, fl_6, fl_7, fl_8, fl_9, fl_10, fl_11, fl_20, fl_200, fl_5000, fl_9999] at *; done) | omega
theorem fq_158 (x0 : Int32) (h0 : ((0 : Int32) = 0 ∧ x0 = 2)) : x0 = 2 := by first | decide | (simp only [fz_lt, fz_le, fz_eq, true_and, and_true, false_and, and_false, true_or, or_true, false_or, or_false, not_true_eq_false, not_false_eq_true, fl_m1, fl_0, fl_1, fl_2, fl_3, fl_4, fl_5, fl_6, fl_7, fl_8, fl_9, fl_10, fl_11, fl_20, fl_200, fl_5000, fl_9999] at *; omega) | (simp only [fz_lt, fz_le, fz_eq, true_and, and_true, false_and, and_false, true_or, or_true, false_or, or_false, not_true_eq_false, not_false_eq_true, fl_m1, fl_0, fl_1, fl_2, fl_3, fl_4, fl_5, fl_6, fl_7, fl_8, fl_9, fl_10, fl_11, fl_20, fl_200, fl_5000, fl_9999] at *; done) | omega
theorem fq_159 (h0 : ((0 : Int32) = 0 ∧ ¬ (((0 : Int32) ≤ 2 ∧ (2 : Int32) ≤ 11)))) : False := by first | decide | (simp only [fz_lt, fz_le, fz_eq, true_and, and_true, false_and, and_false, true_or, or_true, false_or, or_false, not_true_eq_false, not_false_eq_true, fl_m1, fl_0, fl_1, fl_2, fl_3, fl_4, fl_5, fl_6, fl_7, fl_8, fl_9, fl_10, fl_11, fl_20, fl_200, fl_5000, fl_9999] at *; omega) | (simp only [fz_lt, fz_le, fz_eq, true_and, and_true, false_and, and_false, true_or, or_true, false_or, or_false, not_true_eq_false, not_false_eq_true, fl_m1, fl_0, fl_1, fl_2, fl_3, fl_4, fl_5, fl_6, fl_7, fl_8, fl_9, fl_10, fl_11, fl_20, fl_200, fl_5000, fl_9999] at *; done) | omega
theorem fq_160 (h0 : ((0 : Int32) = 0 ∧ (2 : Int32) = 0)) : False := by first | decide | (simp only [fz_lt, fz_le, fz_eq, true_and, and_true, false_and, and_false, true_or, or_true, false_or, or_false, not_true_eq_false, not_false_eq_true, fl_m1, fl_0, fl_1, fl_2, fl_3, fl_4, fl_5, fl_6, fl_7, fl_8, fl_9, fl_10, fl_11, fl_20, fl_200, fl_5000, fl_9999] at *; omega) | (simp only [fz_lt, fz_le, fz_eq, true_and, and_true, false_and, and_false, true_or, or_true, false_or, or_false, not_true_eq_false, not_false_eq_true, fl_m1, fl_0, fl_1, fl_2, fl_3, fl_4, fl_5, fl_6, fl_7, fl_8, fl_9, fl_10, fl_11, fl_20, fl_200, fl_5000, fl_9999] at *; done) | omega
theorem fq_161 (h0 : ((0 : Int32) = 0 ∧ (2 : Int32) = 1)) : False := by first | decide | (simp only [fz_lt, fz_le, fz_eq, true_and, and_true, false_and, and_false, true_or, or_true, false_or, or_false, not_true_eq_false, not_false_eq_true, fl_m1, fl_0, fl_1, fl_2, fl_3, fl_4, fl_5, fl_6, fl_7, fl_8, fl_9, fl_10, fl_11, fl_20, fl_200, fl_5000, fl_9999] at *; omega) | (simp only [fz_lt, fz_le, fz_eq, true_and, and_true, false_and, and_false, true_or, or_true, false_or, or_false, not_true_eq_false, not_false_eq_true, fl_m1, fl_0, fl_1, fl_2, fl_3, fl_4, fl_5, fl_6, fl_7, fl_8, fl_9, fl_10, fl_11, fl_20, fl_200, fl_5000, fl_9999] at *; done) | omega
theorem fq_162 (h0 : ((0 : Int32) = 0 ∧ ((3 : Int32) ≤ 2 ∧ (2 : Int32) ≤ 5))) : False := by first | decide | (simp only [fz_lt, fz_le, fz_eq, true_and, and_true, false_and, and_false, true_or, or_true, false_or, or_false, not_true_eq_false, not_false_eq_true, fl_m1, fl_0, fl_1, fl_2, fl_3, fl_4, fl_5, fl_6, fl_7, fl_8, fl_9, fl_10, fl_11, fl_20, fl_200, fl_5000, fl_9999] at *; omega) | (simp only [fz_lt, fz_le, fz_eq, true_and, and_true, false_and, and_false, true_or, or_true, false_or, or_false, not_true_eq_false, not_false_eq_true, fl_m1, fl_0, fl_1, fl_2, fl_3, fl_4, fl_5, fl_6, fl_7, fl_8, fl_9, fl_10, fl_11, fl_20, fl_200, fl_5000, fl_9999] at *; done) | omega
theorem fq_163 (h0 : ((0 : Int32) = 0 ∧ ((6 : Int32) ≤ 2 ∧ (2 : Int32) ≤ 8))) : False := by first | decide | (simp only [fz_lt, fz_le, fz_eq, true_and, and_true, false_and, and_false, true_or, or_true, false_or, or_false, not_true_eq_false, not_false_eq_true, fl_m1, fl_0, fl_1, fl_2, fl_3, fl_4, fl_5, fl_6, fl_7, fl_8, fl_9, fl_10, fl_11, fl_20, fl_200, fl_5000, fl_9999] at *; omega) | (simp only [fz_lt, fz_le, fz_eq, true_and, and_true, false_and, and_false, true_or, or_true, false_or, or_false, not_true_eq_false, not_false_eq_true, fl_m1, fl_0, fl_1, fl_2, fl_3, fl_4, fl_5, fl_6, fl_7, fl_8, fl_9, fl_10, fl_11, fl_20, fl_200, fl_5000, fl_9999] at *; done) | omega
theorem fq_164 (h0 : ((0 : Int32) = 0 ∧ ((9 : Int32) ≤ 2 ∧ (2 : Int32) ≤ 10))) : False := by first | decide | (simp only [fz_lt, fz_le, fz_eq, true_and, and_true, false_and, and_false, true_or, or_true, false_or, or_false, not_true_eq_false, not_false_eq_true, fl_m1, fl_0, fl_1, fl_2, fl_3, fl_4, fl_5, fl_6, fl_7, fl_8, fl_9, fl_10, fl_11, fl_20, fl_200, fl_5000, fl_9999] at *; omega) | (simp only [fz_lt, fz_le, fz_eq, true_and, and_true, false_and, and_false, true_or, or_true, false_or, or_false, not_true_eq_false, not_false_eq_true, fl_m1, fl_0, fl_1, fl_2, fl_3, fl_4, fl_5, fl_6, fl_7, fl_8, fl_9, fl_10, fl_11, fl_20, fl_200, fl_5000, fl_9999] at *; done) | omega
theorem fq_165 (h0 : ((0 : Int32) = 0 ∧ (2 : Int32) = 11)) : False := by first | decide | (simp only [fz_lt, fz_le, fz_eq, true_and, and_true, false_and, and_false, true_or, or_true, false_or, or_false, not_true_eq_false, not_false_eq_true, fl_m1, fl_0, fl_1, fl_2, fl_3, fl_4, fl_5, fl_6, fl_7, fl_8, fl_9, fl_10, fl_11, fl_20, fl_200, fl_5000, fl_9999] at *; omega) | (simp only [fz_lt, fz_le, fz_eq, true_and, and_true, false_and, and_false, true_or, or_true, false_or, or_false, not_true_eq_false, not_false_eq_true, fl_m1, fl_0, fl_1, fl_2, fl_3, fl_4, fl_5, fl_6, fl_7, fl_8, fl_9, fl_10, fl_11, fl_20, fl_200, fl_5000, fl_9999] at *; done) | omega
theorem fq_166 (x0 x1 : Int32) (h0 : (x0 = 0 ∧ (3 ≤ x1 ∧ x1 ≤ 5))) : x0 = 0 := by first | decide | (simp only [fz_lt, fz_le, fz_eq, true_and, and_true, false_and, and_false, true_or, or_true, false_or, or_false, not_true_eq_false, not_false_eq_true, fl_m1, fl_0, fl_1, fl_2, fl_3, fl_4, fl_5, fl_6, fl_7, fl_8, fl_9, fl_10, fl_11, fl_20, fl_200, fl_5000, fl_9999] at *; omega) | (simp only [fz_lt, fz_le, fz_eq, true_and, and_true, false_and, and_false, true_or, or_true, false_or, or_false, not_true_eq_false, not_false_eq_true, fl_m1, fl_0, fl_1, fl_2, fl_3, fl_4, fl_5, fl_6, fl_7, fl_8, fl_9, fl_10, fl_11, fl_20, fl_200, fl_5000, fl_9999] at *; done) | omega
theorem fq_167 (x0 : Int32) (h0 : ((0 : Int32) = 0 ∧ (3 ≤ x0 ∧ x0 ≤ 5))) (h1 : ((0 : Int32) = 0 ∧ ¬ ((0 ≤ x0 ∧ x0 ≤ 11)))) : False := by first | decide | (simp only [fz_lt, fz_le, fz_eq, true_and, and_true, false_and, and_false, true_or, or_true, false_or, or_false, not_true_eq_false, not_false_eq_true, fl_m1, fl_0, fl_1, fl_2, fl_3, fl_4, fl_5, fl_6, fl_7, fl_8, fl_9, fl_10, fl_11, fl_20, fl_200, fl_5000, fl_9999] at *; omega) | (simp only [fz_lt, fz_le, fz_eq, true_and, and_true, false_and, and_false, true_or, or_true, false_or, or_false, not_true_eq_false, not_false_eq_true, fl_m1, fl_0, fl_1, fl_2, fl_3, fl_4, fl_5, fl_6, fl_7, fl_8, fl_9, fl_10, fl_11, fl_20, fl_200, fl_5000, fl_9999] at *; done) | omega
theorem fq_168 (x0 : Int32) (h0 : ((0 : Int32) = 0 ∧ (3 ≤ x0 ∧ x0 ≤ 5))) (h1 : ((0 : Int32) = 0 ∧ x0 = 0)) : False := by first | decide | (simp only [fz_lt, fz_le, fz_eq, true_and, and_true, false_and, and_false, true_or, or_true, false_or, or_false, not_true_eq_false, not_false_eq_true, fl_m1, fl_0, fl_1, fl_2, fl_3, fl_4, fl_5, fl_6, fl_7, fl_8, fl_9, fl_10, fl_11, fl_20, fl_200, fl_5000, fl_9999] at *; omega) | (simp only [fz_lt, fz_le, fz_eq, true_and, and_true, false_and, and_false, true_or, or_true, false_or, or_false, not_true_eq_false, not_false_eq_true, fl_m1, fl_0, fl_1, fl_2, fl_3, fl_4, fl_5, fl_6, fl_7, fl_8, fl_9, fl_10, fl_11, fl_20, fl_200, fl_5000, fl_9999] at *; done) | omega
theorem fq_169 (x0 : Int32) (h0 : ((0 : Int32) = 0 ∧ (3 ≤ x0 ∧ x0 ≤ 5))) (h1 : ((0 : Int32) = 0 ∧ x0 = 1)) : False := by first | decide | (simp only [fz_lt, fz_le, fz_eq, true_and, and_true, false_and, and_false, true_or, or_true, false_or, or_false, not_true_eq_false, not_false_eq_true, fl_m1, fl_0, fl_1, fl_2, fl_3, fl_4, fl_5, fl_6, fl_7, fl_8, fl_9, fl_10, fl_11, fl_20, fl_200, fl_5000, fl_9999] at *; omega) | (simp only [fz_lt, fz_le, fz_eq, true_and, and_true, false_and, and_false, true_or, or_true, false_or, or_false, not_true_eq_false, not_false_eq_true, fl_m1, fl_0, fl_1, fl_2, fl_3, fl_4, fl_5, fl_6, fl_7, fl_8, fl_9, fl_10, fl_11, fl_20, fl_200, fl_5000, fl_9999] at *; done) | omega
theorem fq_170 (x0 : Int32) (h0 : ((0 : Int32) = 0 ∧ (3 ≤ x0 ∧ x0 ≤ 5))) (h1 : ((0 : Int32) = 0 ∧ x0 = 2)) : False := by first | decide | (simp only [fz_lt, fz_le, fz_eq, true_and, and_true, false_and, and_false, true_or, or_true, false_or, or_false, not_true_eq_false, not_false_eq_true, fl_m1, fl_0, fl_1, fl_2, fl_3, fl_4, fl_5, fl_6, fl_7, fl_8, fl_9, fl_10, fl_11, fl_20, fl_200, fl_5000, fl_9999] at *; omega) | (simp only [fz_lt, fz_le, fz_eq, true_and, and_true, false_and, and_false, true_or, or_true, false_or, or_false, not_true_eq_false, not_false_eq_true, fl_m1, fl_0, fl_1, fl_2, fl_3, fl_4, fl_5, fl_6, fl_7, fl_8, fl_9, fl_10, fl_11, fl_20, fl_200, fl_5000, fl_9999] at *; done) | omega
theorem fq_171 (x0 : Int32) (h0 : ((0 : Int32) = 0 ∧ (3 ≤ x0 ∧ x0 ≤ 5))) (h1 : ((0 : Int32) = 0 ∧ (6 ≤ x0 ∧ x0 ≤ 8))) : False := by first | decide | (simp only [fz_lt, fz_le, fz_eq, true_and, and_true, false_and, and_false, true_or, or_true, false_or, or_false, not_true_eq_false, not_false_eq_true, fl_m1, fl_0, fl_1, fl_2, fl_3, fl_4, fl_5, fl_6, fl_7, fl_8, fl_9, fl_10, fl_11, fl_20, fl_200, fl_5000, fl_9999] at *; omega) | (simp only [fz_lt, fz_le, fz_eq, true_and, and_true, false_and, and_false, true_or, or_true, false_or, or_false, not_true_eq_false, not_false_eq_true, fl_m1, fl_0, fl_1, fl_2, fl_3, fl_4, fl_5, fl_6, fl_7, fl_8, fl_9, fl_10, fl_11, fl_20, fl_200, fl_5000, fl_9999] at *; done) | omega
theorem fq_172 (x0 : Int32) (h0 : ((0 : Int32) = 0 ∧ (3 ≤ x0 ∧ x0 ≤ 5))) (h1 : ((0 : Int32) = 0 ∧ (9 ≤ x0 ∧ x0 ≤ 10))) : False := by first | decide | (simp only [fz_lt, fz_le, fz_eq, true_and, and_true, false_and, and_false, true_or, or_true, false_or, or_false, not_true_eq_false, not_false_eq_true, fl_m1, fl_0, fl_1, fl_2, fl_3, fl_4, fl_5, fl_6, fl_7, fl_8, fl_9, fl_10, fl_11, fl_20, fl_200, fl_5000, fl_9999] at *; omega) | (simp only [fz_lt, fz_le, fz_eq, true_and, and_true, false_and, and_false, true_or, or_true, false_or, or_false, not_true_eq_false, not_false_eq_true, fl_m1, fl_0, fl_1, fl_2, fl_3, fl_4, fl_5, fl_6, fl_7, fl_8, fl_9, fl_10, fl_11, fl_20, fl_200, fl_5000, fl_9999] at *; done) | omega
theorem fq_173 (x0 : Int32) (h0 : ((0 : Int32) = 0 ∧ (3 ≤ x0 ∧ x0 ≤ 5))) (h1 : ((0 : Int32) = 0 ∧ x0 = 11)) : False := by first | decide | (simp only [fz_lt, fz_le, fz_eq, true_and, and_true, false_and, and_false, true_or, or_true, false_or, or_false, not_true_eq_false, not_false_eq_true, fl_m1, fl_0, fl_1, fl_2, fl_3, fl_4, fl_5, fl_6, fl_7, fl_8, fl_9, fl_10, fl_11, fl_20, fl_200, fl_5000, fl_9999] at *; omega) | (simp only [fz_lt, fz_le, fz_eq, true_and, and_true, false_and, and_false, true_or, or_true, false_or, or_false, not_true_eq_false, not_false_eq_true, fl_m1, fl_0, fl_1, fl_2, fl_3, fl_4, fl_5, fl_6, fl_7, fl_8, fl_9, fl_10, fl_11, fl_20, fl_200, fl_5000, fl_9999] at *; done) | omega
theorem fq_174 (x0 x1 : Int32) (h0 : (x0 = 0 ∧ (6 ≤ x1 ∧ x1 ≤ 8))) : x0 = 0 := by first | decide | (simp only [fz_lt, fz_le, fz_eq, true_and, and_true, false_and, and_false, true_or, or_true, false_or, or_false, not_true_eq_false, not_false_eq_true, fl_m1, fl_0, fl_1, fl_2, fl_3, fl_4, fl_5, fl_6, fl_7, fl_8, fl_9, fl_10, fl_11, fl_20, fl_200, fl_5000, fl_9999] at *; omega) | (simp only [fz_lt, fz_le, fz_eq, true_and, and_true, false_and, and_false, true_or, or_true, false_or, or_false, not_true_eq_false, not_false_eq_true, fl_m1, fl_0, fl_1, fl_2, fl_3, fl_4, fl_5, fl_6, fl_7, fl_8, fl_9, fl_10, fl_11, fl_20, fl_200, fl_5000, fl_9999] at *; done) | omega
theorem fq_175 (x0 : Int32) (h0 : ((0 : Int32) = 0 ∧ (6 ≤ x0 ∧ x0 ≤ 8))) (h1 : ((0 : Int32) = 0 ∧ ¬ ((0 ≤ x0 ∧ x0 ≤ 11)))) : False := by first | decide | (simp only [fz_lt, fz_le, fz_eq, true_and, and_true, false_and, and_false, true_or, or_true, false_or, or_false, not_true_eq_false, not_false_eq_true, fl_m1, fl_0, fl_1, fl_2, fl_3, fl_4, fl_5, fl_6, fl_7, fl_8, fl_9, fl_10, fl_11, fl_20, fl_200, fl_5000, fl_9999] at *; omega) | (simp only [fz_lt, fz_le, fz_eq, true_and, and_true, false_and, and_false, true_or, or_true, false_or, or_false, not_true_eq_false, not_false_eq_true, fl_m1, fl_0, fl_1, fl_2, fl_3, fl_4, fl_5, fl_6, fl_7, fl_8, fl_9, fl_10, fl_11, fl_20, fl_200, fl_5000, fl_9999] at *; done) | omega
theorem fq_176 (x0 : Int32) (h0 : ((0 : Int32) = 0 ∧ (6 ≤ x0 ∧ x0 ≤ 8))) (h1 : ((0 : Int32) = 0 ∧ x0 = 0)) : False := by first | decide | (simp only [fz_lt, fz_le, fz_eq, true_and, and_true, false_and, and_false, true_or, or_true, false_or, or_false, not_true_eq_false, not_false_eq_true, fl_m1, fl_0, fl_1, fl_2, fl_3, fl_4, fl_5, fl_6, fl_7, fl_8, fl_9, fl_10, fl_11, fl_20, fl_200, fl_5000, fl_9999] at *; omega) | (simp only [fz_lt, fz_le, fz_eq, true_and, and_true, false_and, and_false, true_or, or_true, false_or, or_false, not_true_eq_false, not_false_eq_true, fl_m1, fl_0, fl_1, fl_2, fl_3, fl_4, fl_5, fl_6, fl_7, fl_8, fl_9, fl_10, fl_11, fl_20, fl_200, fl_5000, fl_9999] at *; done) | omega
theorem fq_177 (x0 : Int32) (h0 : ((0 : Int32) = 0 ∧ (6 ≤ x0 ∧ x0 ≤ 8))) (h1 : ((0 : Int32) = 0 ∧ x0 = 1)) : False := by first | decide | (simp only [fz_lt, fz_le, fz_eq, true_and, and_true, false_and, and_false, true_or, or_true, false_or, or_false, not_true_eq_false, not_false_eq_true, fl_m1, fl_0, fl_1, fl_2, fl_3, fl_4, fl_5, fl_6, fl_7, fl_8, fl_9, fl_10, fl_11, fl_20, fl_200, fl_5000, fl_9999] at *; omega) | (simp only [fz_lt, fz_le, fz_eq, true_and, and_true, false_and, and_false, true_or, or_true, false_or, or_false, not_true_eq_false, not_false_eq_true, fl_m1, fl_0, fl_1, fl_2, fl_3, fl_4, fl_5, fl_6, fl_7, fl_8, fl_9, fl_10, fl_11, fl_20, fl_200, fl_5000, fl_9999] at *; done) | omega
theorem fq_178 (x0 : Int32) (h0 : ((0 : Int32) = 0 ∧ (6 ≤ x0 ∧ x0 ≤ 8))) (h1 : ((0 : Int32) = 0 ∧ x0 = 2)) : False := by first | decide | (simp only [fz_lt, fz_le, fz_eq, true_and, and_true, false_and, and_false, true_or, or_true, false_or, or_false, not_true_eq_false, not_false_eq_true, fl_m1, fl_0, fl_1, fl_2, fl_3, fl_4, fl_5, fl_6, fl_7, fl_8, fl_9, fl_10, fl_11, fl_20, fl_200, fl_5000, fl_9999] at *; omega) | (simp only [fz_lt, fz_le, fz_eq, true_and, and_true, false_and, and_false, true_or, or_true, false_or, or_false, not_true_eq_false, not_false_eq_true, fl_m1, fl_0, fl_1, fl_2, fl_3, fl_4, fl_5, fl_6, fl_7, fl_8, fl_9, fl_10, fl_11, fl_20, fl_200, fl_5000, fl_9999] at *; done) | omega
theorem fq_179 (x0 : Int32) (h0 : ((0 : Int32) = 0 ∧ (6 ≤ x0 ∧ x0 ≤ 8))) (h1 : ((0 : Int32) = 0 ∧ (3 ≤ x0 ∧ x0 ≤ 5))) : False := by first | decide | (simp only [fz_lt, fz_le, fz_eq, true_and, and_true, false_and, and_false, true_or, or_true, false_or, or_false, not_true_eq_false, not_false_eq_true, fl_m1, fl_0, fl_1, fl_2, fl_3, fl_4, fl_5, fl_6, fl_7, fl_8, fl_9, fl_10, fl_11, fl_20, fl_200, fl_5000, fl_9999] at *; omega) | (simp only [fz_lt, fz_le, fz_eq, true_and, and_true, false_and, and_false, true_or, or_true, false_or, or_false, not_true_eq_false, not_false_eq_true, fl_m1, fl_0, fl_1, fl_2, fl_3, fl_4, fl_5, fl_6, fl_7, fl_8, fl_9, fl_10, fl_11, fl_20, fl_200, fl_5000, fl_9999] at *; done) | omega
theorem fq_180 (x0 : Int32) (h0 : ((0 : Int32) = 0 ∧ (6 ≤ x0 ∧ x0 ≤ 8))) (h1 : ((0 : Int32) = 0 ∧ (9 ≤ x0 ∧ x0 ≤ 10))) : False := by first | decide | (simp only [fz_lt, fz_le, fz_eq, true_and, and_true, false_and, and_false, true_or, or_true, false_or, or_false, not_true_eq_false, not_false_eq_true, fl_m1, fl_0, fl_1, fl_2, fl_3, fl_4, fl_5, fl_6, fl_7, fl_8, fl_9, fl_10, fl_11, fl_20, fl_200, fl_5000, fl_9999] at *; omega) | (simp only [fz_lt, fz_le, fz_eq, true_and, and_true, false_and, and_false, true_or, or_true, false_or, or_false, not_true_eq_false, not_false_eq_true, fl_m1, fl_0, fl_1, fl_2, fl_3, fl_4, fl_5, fl_6, fl_7, fl_8, fl_9, fl_10, fl_11, fl_20, fl_200, fl_5000, fl_9999] at *; done) | omega
theorem fq_181 (x0 : Int32) (h0 : ((0 : Int32) = 0 ∧ (6 ≤ x0 ∧ x0 ≤ 8))) (h1 : ((0 : Int32) = 0 ∧ x0 = 11)) : False := by first | decide | (simp only [fz_lt, fz_le, fz_eq, true_and, and_true, false_and, and_false, true_or, or_true, false_or, or_false, not_true_eq_false, not_false_eq_true, fl_m1, fl_0, fl_1, fl_2, fl_3, fl_4, fl_5, fl_6, fl_7, fl_8, fl_9, fl_10, fl_11, fl_20, fl_200, fl_5000, fl_9999] at *; omega) | (simp only [fz_lt, fz_le, fz_eq, true_and, and_true, false_and, and_false, true_or, or_true, false_or, or_false, not_true_eq_false, not_false_eq_true, fl_m1, fl_0, fl_1, fl_2, fl_3, fl_4, fl_5, fl_6, fl_7, fl_8, fl_9, fl_10, fl_11, fl_20, fl_200, fl_5000, fl_9999] at *; done) | omega
theorem fq_182 (x0 x1 : Int32) (h0 : (x0 = 0 ∧ (9 ≤ x1 ∧ x1 ≤ 10))) : x0 = 0 := by first | decide | (simp only [fz_lt, fz_le, fz_eq, true_and, and_true, false_and, and_false, true_or, or_true, false_or, or_false, not_true_eq_false, not_false_eq_true, fl_m1, fl_0, fl_1, fl_2, fl_3, fl_4, fl_5, fl_6, fl_7, fl_8, fl_9, fl_10, fl_11, fl_20, fl_200, fl_5000, fl_9999] at *; omega) | (simp only [fz_lt, fz_le, fz_eq, true_and, and_true, false_and, and_false, true_or, or_true, false_or, or_false, not_true_eq_false, not_false_eq_true, fl_m1, fl_0, fl_1, fl_2, fl_3, fl_4, fl_5, fl_6, fl_7, fl_8, fl_9, fl_10, fl_11, fl_20, fl_200, fl_5000, fl_9999] at *; done) | omega
theorem fq_183 (x0 : Int32) (h0 : ((0 : Int32) = 0 ∧ (9 ≤ x0 ∧ x0 ≤ 10))) (h1 : ((0 : Int32) = 0 ∧ ¬ ((0 ≤ x0 ∧ x0 ≤ 11)))) : False := by first | decide | (simp only [fz_lt, fz_le, fz_eq, true_and, and_true, false_and, and_false, true_or, or_true, false_or, or_false, not_true_eq_false, not_false_eq_true, fl_m1, fl_0, fl_1, fl_2, fl_3, fl_4, fl_5, fl_6, fl_7, fl_8, fl_9, fl_10, fl_11, fl_20, fl_200, fl_5000, fl_9999] at *; omega) | (simp only [fz_lt, fz_le, fz_eq, true_and, and_true, false_and, and_false, true_or, or_true, false_or, or_false, not_true_eq_false, not_false_eq_true, fl_m1, fl_0, fl_1, fl_2, fl_3, fl_4, fl_5, fl_6, fl_7, fl_8, fl_9, fl_10, fl_11, fl_20, fl_200, fl_5000, fl_9999] at *; done) | omega
theorem fq_184 (x0 : Int32) (h0 : ((0 : Int32) = 0 ∧ (9 ≤ x0 ∧ x0 ≤ 10))) (h1 : ((0 : Int32) = 0 ∧ x0 = 0)) : False := by first | decide | (simp only [fz_lt, fz_le, fz_eq, true_and, and_true, false_and, and_false, true_or, or_true, false_or, or_false, not_true_eq_false, not_false_eq_true, fl_m1, fl_0, fl_1, fl_2, fl_3, fl_4, fl_5, fl_6, fl_7, fl_8, fl_9, fl_10, fl_11, fl_20, fl_200, fl_5000, fl_9999] at *; omega) | (simp only [fz_lt, fz_le, fz_eq, true_and, and_true, false_and, and_false, true_or, or_true, false_or, or_false, not_true_eq_false, not_false_eq_true, fl_m1, fl_0, fl_1, fl_2, fl_3, fl_4, fl_5, fl_6, fl_7, fl_8, fl_9, fl_10, fl_11, fl_20, fl_200, fl_5000, fl_9999] at *; done) | omega
theorem fq_185 (x0 : Int32) (h0 : ((0 : Int32) = 0 ∧ (9 ≤ x0 ∧ x0 ≤ 10))) (h1 : ((0 : Int32) = 0 ∧ x0 = 1)) : False := by first | decide | (simp only [fz_lt, fz_le, fz_eq, true_and, and_true, false_and, and_false, true_or, or_true, false_or, or_false, not_true_eq_false, not_false_eq_true, fl_m1, fl_0, fl_1, fl_2, fl_3, fl_4, fl_5, fl_6, fl_7, fl_8, fl_9, fl_10, fl_11, fl_20, fl_200, fl_5000, fl_9999] at *; omega) | (simp only [fz_lt, fz_le, fz_eq, true_and, and_true, false_and, and_false, true_or, or_true, false_or, or_false, not_true_eq_false, not_false_eq_true, fl_m1, fl_0, fl_1, fl_2, fl_3, fl_4, fl_5, fl_6, fl_7, fl_8, fl_9, fl_10, fl_11, fl_20, fl_200, fl_5000, fl_9999] at *; done) | omega
theorem fq_186 (x0 : Int32) (h0 : ((0 : Int32) = 0 ∧ (9 ≤ x0 ∧ x0 ≤ 10))) (h1 : ((0 : Int32) = 0 ∧ x0 = 2)) : False := by first | decide | (simp only [fz_lt, fz_le, fz_eq, true_and, and_true, false_and, and_false, true_or, or_true, false_or, or_false, not_true_eq_false, not_false_eq_true, fl_m1, fl_0, fl_1, fl_2, fl_3, fl_4, fl_5, fl_6, fl_7, fl_8, fl_9, fl_10, fl_11, fl_20, fl_200, fl_5000, fl_9999] at *; omega) | (simp only [fz_lt, fz_le, fz_eq, true_and, and_true, false_and, and_false, true_or, or_true, false_or, or_false, not_true_eq_false, not_false_eq_true, fl_m1, fl_0, fl_1, fl_2, fl_3, fl_4, fl_5, fl_6, fl_7, fl_8, fl_9, fl_10, fl_11, fl_20, fl_200, fl_5000, fl_9999] at *; done) | omega
theorem fq_187 (x0 : Int32) (h0 : ((0 : Int32) = 0 ∧ (9 ≤ x0 ∧ x0 ≤ 10))) (h1 : ((0 : Int32) = 0 ∧ (3 ≤ x0 ∧ x0 ≤ 5))) : False := by first | decide | (simp only [fz_lt, fz_le, fz_eq, true_and, and_true, false_and, and_false, true_or, or_true, false_or, or_false, not_true_eq_false, not_false_eq_true, fl_m1, fl_0, fl_1, fl_2, fl_3, fl_4, fl_5, fl_6, fl_7, fl_8, fl_9, fl_10, fl_11, fl_20, fl_200, fl_5000, fl_9999] at *; omega) | (simp only [fz_lt, fz_le, fz_eq, true_and, and_true, false_and, and_false, true_or, or_true, false_or, or_false, not_true_eq_false, not_false_eq_true, fl_m1, fl_0, fl_1, fl_2, fl_3, fl_4, fl_5, fl_6, fl_7, fl_8, fl_9, fl_10, fl_11, fl_20, fl_200, fl_5000, fl_9999] at *; done) | omega
theorem fq_188 (x0 : Int32) (h0 : ((0 : Int32) = 0 ∧ (9 ≤ x0 ∧ x0 ≤ 10))) (h1 : ((0 : Int32) = 0 ∧ (6 ≤ x0 ∧ x0 ≤ 8))) : False := by first | decide | (simp only [fz_lt, fz_le, fz_eq, true_and, and_true, false_and, and_false, true_or, or_true, false_or, or_false, not_true_eq_false, not_false_eq_true, fl_m1, fl_0, fl_1, fl_2, fl_3, fl_4, fl_5, fl_6, fl_7, fl_8, fl_9, fl_10, fl_11, fl_20, fl_200, fl_5000, fl_9999] at *; omega) | (simp only [fz_lt, fz_le, fz_eq, true_and, and_true, false_and, and_false, true_or, or_true, false_or, or_false, not_true_eq_false, not_false_eq_true, fl_m1, fl_0, fl_1, fl_2, fl_3, fl_4, fl_5, fl_6, fl_7, fl_8, fl_9, fl_10, fl_11, fl_20, fl_200, fl_5000, fl_9999] at *; done) | omega
theorem fq_189 (x0 : Int32) (h0 : ((0 : Int32) = 0 ∧ (9 ≤ x0 ∧ x0 ≤ 10))) (h1 : ((0 : Int32) = 0 ∧ x0 = 11)) : False := by first | decide | (simp only [fz_lt, fz_le, fz_eq, true_and, and_true, false_and, and_false, true_or, or_true, false_or, or_false, not_true_eq_false, not_false_eq_true, fl_m1, fl_0, fl_1, fl_2, fl_3, fl_4, fl_5, fl_6, fl_7, fl_8, fl_9, fl_10, fl_11, fl_20, fl_200, fl_5000, fl_9999] at *; omega) | (simp only [fz_lt, fz_le, fz_eq, true_and, and_true, false_and, and_false, true_or, or_true, false_or, or_false, not_true_eq_false, not_false_eq_true, fl_m1, fl_0, fl_1, fl_2, fl_3, fl_4, fl_5, fl_6, fl_7, fl_8, fl_9, fl_10, fl_11, fl_20, fl_200, fl_5000, fl_9999] at *; done) | omega
theorem fq_190 (x0 x1 : Int32) (h0 : (x0 = 0 ∧ x1 = 11)) : x0 = 0 := by first | decide | (simp only [fz_lt, fz_le, fz_eq, true_and, and_true, false_and, and_false, true_or, or_true, false_or, or_false, not_true_eq_false, not_false_eq_true, fl_m1, fl_0, fl_1, fl_2, fl_3, fl_4, fl_5, fl_6, fl_7, fl_8, fl_9, fl_10, fl_11, fl_20, fl_200, fl_5000, fl_9999] at *; omega) | (simp only [fz_lt, fz_le, fz_eq, true_and, and_true, false_and, and_false, true_or, or_true, false_or, or_false, not_true_eq_false, not_false_eq_true, fl_m1, fl_0, fl_1, fl_2, fl_3, fl_4, fl_5, fl_6, fl_7, fl_8, fl_9, fl_10, fl_11, fl_20, fl_200, fl_5000, fl_9999] at *; done) | omega
theorem fq_191 (x0 : Int32) (h0 : ((0 : Int32) = 0 ∧ x0 = 11)) : x0 = 11 := by first | decide | (simp only [fz_lt, fz_le, fz_eq, true_and, and_true, false_and, and_false, true_or, or_true, false_or, or_false, not_true_eq_false, not_false_eq_true, fl_m1, fl_0, fl_1, fl_2, fl_3, fl_4, fl_5, fl_6, fl_7, fl_8, fl_9, fl_10, fl_11, fl_20, fl_200, fl_5000, fl_9999] at *; omega) | (simp only [fz_lt, fz_le, fz_eq, true_and, and_true, false_and, and_false, true_or, or_true, false_or, or_false, not_true_eq_false, not_false_eq_true, fl_m1, fl_0, fl_1, fl_2, fl_3, fl_4, fl_5, fl_6, fl_7, fl_8, fl_9, fl_10, fl_11, fl_20, fl_200, fl_5000, fl_9999] at *; done) | omega
theorem fq_192 (h0 : ((0 : Int32) = 0 ∧ ¬ (((0 : Int32) ≤ 11 ∧ (11 : Int32) ≤ 11)))) : False := by first | decide | (simp only [fz_lt, fz_le, fz_eq, true_and, and_true, false_and, and_false, true_or, or_true, false_or, or_false, not_true_eq_false, not_false_eq_true, fl_m1, fl_0, fl_1, fl_2, fl_3, fl_4, fl_5, fl_6, fl_7, fl_8, fl_9, fl_10, fl_11, fl_20, fl_200, fl_5000, fl_9999] at *; omega) | (simp only [fz_lt, fz_le, fz_eq, true_and, and_true, false_and, and_false, true_or, or_true, false_or, or_false, not_true_eq_false, not_false_eq_true, fl_m1, fl_0, fl_1, fl_2, fl_3, fl_4, fl_5, fl_6, fl_7, fl_8, fl_9, fl_10, fl_11, fl_20, fl_200, fl_5000, fl_9999] at *; done) | omega
theorem fq_193 (h0 : ((0 : Int32) = 0 ∧ (11 : Int32) = 0)) : False := by first | decide | (simp only [fz_lt, fz_le, fz_eq, true_and, and_true, false_and, and_false, true_or, or_true, false_or, or_false, not_true_eq_false, not_false_eq_true, fl_m1, fl_0, fl_1, fl_2, fl_3, fl_4, fl_5, fl_6, fl_7, fl_8, fl_9, fl_10, fl_11, fl_20, fl_200, fl_5000, fl_9999] at *; omega) | (simp only [fz_lt, fz_le, fz_eq, true_and, and_true, false_and, and_false, true_or, or_true, false_or, or_false, not_true_eq_false, not_false_eq_true, fl_m1, fl_0, fl_1, fl_2, fl_3, fl_4, fl_5, fl_6, fl_7, fl_8, fl_9, fl_10, fl_11, fl_20, fl_200, fl_5000, fl_9999] at *; done) | omega
theorem fq_194 (h0 : ((0 : Int32) = 0 ∧ (11 : Int32) = 1)) : False := by first | decide | (simp only [fz_lt, fz_le, fz_eq, true_and, and_true, false_and, and_false, true_or, or_true, false_or, or_false, not_true_eq_false, not_false_eq_true, fl_m1, fl_0, fl_1, fl_2, fl_3, fl_4, fl_5, fl_6, fl_7, fl_8, fl_9, fl_10, fl_11, fl_20, fl_200, fl_5000, fl_9999] at *; omega) | (simp only [fz_lt, fz_le, fz_eq, true_and, and_true, false_and, and_false, true_or, or_true, false_or, or_false, not_true_eq_false, not_false_eq_true, fl_m1, fl_0, fl_1, fl_2, fl_3, fl_4, fl_5, fl_6, fl_7, fl_8, fl_9, fl_10, fl_11, fl_20, fl_200, fl_5000, fl_9999] at *; done) | omega
theorem fq_195 (h0 : ((0 : Int32) = 0 ∧ (11 : Int32) = 2)) : False := by first | decide | (simp only [fz_lt, fz_le, fz_eq, true_and, and_true, false_and, and_false, true_or, or_true, false_or, or_false, not_true_eq_false, not_false_eq_true, fl_m1, fl_0, fl_1, fl_2, fl_3, fl_4, fl_5, fl_6, fl_7, fl_8, fl_9, fl_10, fl_11, fl_20, fl_200, fl_5000, fl_9999] at *; omega) | (simp only [fz_lt, fz_le, fz_eq, true_and, and_true, false_and, and_false, true_or, or_true, false_or, or_false, not_true_eq_false, not_false_eq_true, fl_m1, fl_0, fl_1, fl_2, fl_3, fl_4, fl_5, fl_6, fl_7, fl_8, fl_9, fl_10, fl_11, fl_20, fl_200, fl_5000, fl_9999] at *; done) | omega
theorem fq_196 (h0 : ((0 : Int32) = 0 ∧ ((3 : Int32) ≤ 11 ∧ (11 : Int32) ≤ 5))) : False := by first | decide | (simp only [fz_lt, fz_le, fz_eq, true_and, and_true, false_and, and_false, true_or, or_true, false_or, or_false, not_true_eq_false, not_false_eq_true, fl_m1, fl_0, fl_1, fl_2, fl_3, fl_4, fl_5, fl_6, fl_7, fl_8, fl_9, fl_10, fl_11, fl_20, fl_200, fl_5000, fl_9999] at *; omega) | (simp only [fz_lt, fz_le, fz_eq, true_and, and_true, false_and, and_false, true_or, or_true, false_or, or_false, not_true_eq_false, not_false_eq_true, fl_m1, fl_0, fl_1, fl_2, fl_3, fl_4, fl_5, fl_6, fl_7, fl_8, fl_9, fl_10, fl_11, fl_20, fl_200, fl_5000, fl_9999] at *; done) | omega
theorem fq_197 (h0 : ((0 : Int32) = 0 ∧ ((6 : Int32) ≤ 11 ∧ (11 : Int32) ≤ 8))) : False := by first | decide | (simp only [fz_lt, fz_le, fz_eq, true_and, and_true, false_and, and_false, true_or, or_true, false_or, or_false, not_true_eq_false, not_false_eq_true, fl_m1, fl_0, fl_1, fl_2, fl_3, fl_4, fl_5, fl_6, fl_7, fl_8, fl_9, fl_10, fl_11, fl_20, fl_200, fl_5000, fl_9999] at *; omega) | (simp only [fz_lt, fz_le, fz_eq, true_and, and_true, false_and, and_false, true_or, or_true, false_or, or_false, not_true_eq_false, not_false_eq_true, fl_m1, fl_0, fl_1, fl_2, fl_3, fl_4, fl_5, fl_6, fl_7, fl_8, fl_9, fl_10, fl_11, fl_20, fl_200, fl_5000, fl_9999] at *; done) | omega
theorem fq_198 (h0 : ((0 : Int32) = 0 ∧ ((9 : Int32) ≤ 11 ∧ (11 : Int32) ≤ 10))) : False := by first | decide | (simp only [fz_lt, fz_le, fz_eq, true_and, and_true, false_and, and_false, true_or, or_true, false_or, or_false, not_true_eq_false, not_false_eq_true, fl_m1, fl_0, fl_1, fl_2, fl_3, fl_4, fl_5, fl_6, fl_7, fl_8, fl_9, fl_10, fl_11, fl_20, fl_200, fl_5000, fl_9999] at *; omega) | (simp only [fz_lt, fz_le, fz_eq, true_and, and_true, false_and, and_false, true_or, or_true, false_or, or_false, not_true_eq_false, not_false_eq_true, fl_m1, fl_0, fl_1, fl_2, fl_3, fl_4, fl_5, fl_6, fl_7, fl_8, fl_9, fl_10, fl_11, fl_20, fl_200, fl_5000, fl_9999] at *; done) | omega
theorem fq_199 (x0 x1 : Int32) (h0 : ¬ (x0 = 0)) (h1 : (x0 = 0 ∧ ¬ ((0 ≤ x1 ∧ x1 ≤ 11)))) : False := by first | decide | (simp only [fz_lt, fz_le, fz_eq, true_and, and_true, false_and, and_false, true_or, or_true, false_or, or_false, not_true_eq_false, not_false_eq_true, fl_m1, fl_0, fl_1, fl_2, fl_3, fl_4, fl_5, fl_6, fl_7, fl_8, fl_9, fl_10, fl_11, fl_20, fl_200, fl_5000, fl_9999] at *; omega) | (simp only [fz_lt, fz_le, fz_eq, true_and, and_true, false_and, and_false, true_or, or_true, false_or, or_false, not_true_eq_false, not_false_eq_true, fl_m1, fl_0, fl_1, fl_2, fl_3, fl_4, fl_5, fl_6, fl_7, fl_8, fl_9, fl_10, fl_11, fl_20, fl_200, fl_5000, fl_9999] at *; done) | omega
theorem fq_200 (x0 x1 : Int32) (h0 : ¬ (x0 = 0)) (h1 : (x0 = 0 ∧ x1 = 0)) : False := by first | decide | (simp only [fz_lt, fz_le, fz_eq, true_and, and_true, false_and, and_false, true_or, or_true, false_or, or_false, not_true_eq_false, not_false_eq_true, fl_m1, fl_0, fl_1, fl_2, fl_3, fl_4, fl_5, fl_6, fl_7, fl_8, fl_9, fl_10, fl_11, fl_20, fl_200, fl_5000, fl_9999] at *; omega) | (simp only [fz_lt, fz_le, fz_eq, true_and, and_true, false_and, and_false, true_or, or_true, false_or, or_false, not_true_eq_false, not_false_eq_true, fl_m1, fl_0, fl_1, fl_2, fl_3, fl_4, fl_5, fl_6, fl_7, fl_8, fl_9, fl_10, fl_11, fl_20, fl_200, fl_5000, fl_9999] at *; done) | omega
theorem fq_201 (x0 x1 : Int32) (h0 : ¬ (x0 = 0)) (h1 : (x0 = 0 ∧ x1 = 1)) : False := by first | decide | (simp only [fz_lt, fz_le, fz_eq, true_and, and_true, false_and, and_false, true_or, or_true, false_or, or_false, not_true_eq_false, not_false_eq_true, fl_m1, fl_0, fl_1, fl_2, fl_3, fl_4, fl_5, fl_6, fl_7, fl_8, fl_9, fl_10, fl_11, fl_20, fl_200, fl_5000, fl_9999] at *; omega) | (simp only [fz_lt, fz_le, fz_eq, true_and, and_true, false_and, and_false, true_or, or_true, false_or, or_false, not_true_eq_false, not_false_eq_true, fl_m1, fl_0, fl_1, fl_2, fl_3, fl_4, fl_5, fl_6, fl_7, fl_8, fl_9, fl_10, fl_11, fl_20, fl_200, fl_5000, fl_9999] at *; done) | omega
theorem fq_202 (x0 x1 : Int32) (h0 : ¬ (x0 = 0)) (h1 : (x0 = 0 ∧ x1 = 2)) : False := by first | decide | (simp only [fz_lt, fz_le, fz_eq, true_and, and_true, false_and, and_false, true_or, or_true, false_or, or_false, not_true_eq_false, not_false_eq_true, fl_m1, fl_0, fl_1, fl_2, fl_3, fl_4, fl_5, fl_6, fl_7, fl_8, fl_9, fl_10, fl_11, fl_20, fl_200, fl_5000, fl_9999] at *; omega) | (simp only [fz_lt, fz_le, fz_eq, true_and, and_true, false_and, and_false, true_or, or_true, false_or, or_false, not_true_eq_false, not_false_eq_true, fl_m1, fl_0, fl_1, fl_2, fl_3, fl_4, fl_5, fl_6, fl_7, fl_8, fl_9, fl_10, fl_11, fl_20, fl_200, fl_5000, fl_9999] at *; done) | omega
theorem fq_203 (x0 x1 : Int32) (h0 : ¬ (x0 = 0)) (h1 : (x0 = 0 ∧ (3 ≤ x1 ∧ x1 ≤ 5))) : False := by first | decide | (simp only [fz_lt, fz_le, fz_eq, true_and, and_true, false_and, and_false, true_or, or_true, false_or, or_false, not_true_eq_false, not_false_eq_true, fl_m1, fl_0, fl_1, fl_2, fl_3, fl_4, fl_5, fl_6, fl_7, fl_8, fl_9, fl_10, fl_11, fl_20, fl_200, fl_5000, fl_9999] at *; omega) | (simp only [fz_lt, fz_le, fz_eq, true_and, and_true, false_and, and_false, true_or, or_true, false_or, or_false, not_true_eq_false, not_false_eq_true, fl_m1, fl_0, fl_1, fl_2, fl_3, fl_4, fl_5, fl_6, fl_7, fl_8, fl_9, fl_10, fl_11, fl_20, fl_200, fl_5000, fl_9999] at *; done) | omega
theorem fq_204 (x0 x1 : Int32) (h0 : ¬ (x0 = 0)) (h1 : (x0 = 0 ∧ (6 ≤ x1 ∧ x1 ≤ 8))) : False := by first | decide | (simp only [fz_lt, fz_le, fz_eq, true_and, and_true, false_and, and_false, true_or, or_true, false_or, or_false, not_true_eq_false, not_false_eq_true, fl_m1, fl_0, fl_1, fl_2, fl_3, fl_4, fl_5, fl_6, fl_7, fl_8, fl_9, fl_10, fl_11, fl_20, fl_200, fl_5000, fl_9999] at *; omega) | (simp only [fz_lt, fz_le, fz_eq, true_and, and_true, false_and, and_false, true_or, or_true, false_or, or_false, not_true_eq_false, not_false_eq_true, fl_m1, fl_0, fl_1, fl_2, fl_3, fl_4, fl_5, fl_6, fl_7, fl_8, fl_9, fl_10, fl_11, fl_20, fl_200, fl_5000, fl_9999] at *; done) | omega
theorem fq_205 (x0 x1 : Int32) (h0 : ¬ (x0 = 0)) (h1 : (x0 = 0 ∧ (9 ≤ x1 ∧ x1 ≤ 10))) : False := by first | decide | (simp only [fz_lt, fz_le, fz_eq, true_and, and_true, false_and, and_false, true_or, or_true, false_or, or_false, not_true_eq_false, not_false_eq_true, fl_m1, fl_0, fl_1, fl_2, fl_3, fl_4, fl_5, fl_6, fl_7, fl_8, fl_9, fl_10, fl_11, fl_20, fl_200, fl_5000, fl_9999] at *; omega) | (simp only [fz_lt, fz_le, fz_eq, true_and, and_true, false_and, and_false, true_or, or_true, false_or, or_false, not_true_eq_false, not_false_eq_true, fl_m1, fl_0, fl_1, fl_2, fl_3, fl_4, fl_5, fl_6, fl_7, fl_8, fl_9, fl_10, fl_11, fl_20, fl_200, fl_5000, fl_9999] at *; done) | omega
theorem fq_206 (x0 x1 : Int32) (h0 : ¬ (x0 = 0)) (h1 : (x0 = 0 ∧ x1 = 11)) : False := by first | decide | (simp only [fz_lt, fz_le, fz_eq, true_and, and_true, false_and, and_false, true_or, or_true, false_or, or_false, not_true_eq_false, not_false_eq_true, fl_m1, fl_0, fl_1, fl_2, fl_3, fl_4, fl_5, fl_6, fl_7, fl_8, fl_9, fl_10, fl_11, fl_20, fl_200, fl_5000, fl_9999] at *; omega) | (simp only [fz_lt, fz_le, fz_eq, true_and, and_true, false_and, and_false, true_or, or_true, false_or, or_false, not_true_eq_false, not_false_eq_true, fl_m1, fl_0, fl_1, fl_2, fl_3, fl_4, fl_5, fl_6, fl_7, fl_8, fl_9, fl_10, fl_11, fl_20, fl_200, fl_5000, fl_9999] at *; done) | omega
theorem fq_207 (x0 x1 : Int32) (h0 : (x0 = 0 ∧ ¬ ((0 ≤ x1 ∧ x1 ≤ 11)))) : x0 = 0 := by first | decide | (simp only [fz_lt, fz_le, fz_eq, true_and, and_true, false_and, and_false, true_or, or_true, false_or, or_false, not_true_eq_false, not_false_eq_true, fl_m1, fl_0, fl_1, fl_2, fl_3, fl_4, fl_5, fl_6, fl_7, fl_8, fl_9, fl_10, fl_11, fl_20, fl_200, fl_5000, fl_9999] at *; omega) | (simp only [fz_lt, fz_le, fz_eq, true_and, and_true, false_and, and_false, true_or, or_true, false_or, or_false, not_true_eq_false, not_false_eq_true, fl_m1, fl_0, fl_1, fl_2, fl_3, fl_4, fl_5, fl_6, fl_7, fl_8, fl_9, fl_10, fl_11, fl_20, fl_200, fl_5000, fl_9999] at *; done) | omega
theorem fq_208 (x0 : Int32) (h0 : ((0 : Int32) = 0 ∧ ¬ ((0 ≤ x0 ∧ x0 ≤ 11)))) (h1 : ((0 : Int32) = 0 ∧ x0 = 0)) : False := by first | decide | (simp only [fz_lt, fz_le, fz_eq, true_and, and_true, false_and, and_false, true_or, or_true, false_or, or_false, not_true_eq_false, not_false_eq_true, fl_m1, fl_0, fl_1, fl_2, fl_3, fl_4, fl_5, fl_6, fl_7, fl_8, fl_9, fl_10, fl_11, fl_20, fl_200, fl_5000, fl_9999] at *; omega) | (simp only [fz_lt, fz_le, fz_eq, true_and, and_true, false_and, and_false, true_or, or_true, false_or, or_false, not_true_eq_false, not_false_eq_true, fl_m1, fl_0, fl_1, fl_2, fl_3, fl_4, fl_5, fl_6, fl_7, fl_8, fl_9, fl_10, fl_11, fl_20, fl_200, fl_5000, fl_9999] at *; done) | omega
theorem fq_209 (x0 : Int32) (h0 : ((0 : Int32) = 0 ∧ ¬ ((0 ≤ x0 ∧ x0 ≤ 11)))) (h1 : ((0 : Int32) = 0 ∧ x0 = 1)) : False := by first | decide | (simp only [fz_lt, fz_le, fz_eq, true_and, and_true, false_and, and_false, true_or, or_true, false_or, or_false, not_true_eq_false, not_false_eq_true, fl_m1, fl_0, fl_1, fl_2, fl_3, fl_4, fl_5, fl_6, fl_7, fl_8, fl_9, fl_10, fl_11, fl_20, fl_200, fl_5000, fl_9999] at *; omega) | (simp only [fz_lt, fz_le, fz_eq, true_and, and_true, false_and, and_false, true_or, or_true, false_or, or_false, not_true_eq_false, not_false_eq_true, fl_m1, fl_0, fl_1, fl_2, fl_3, fl_4, fl_5, fl_6, fl_7, fl_8, fl_9, fl_10, fl_11, fl_20, fl_200, fl_5000, fl_9999] at *; done) | omega
theorem fq_210 (x0 : Int32) (h0 : ((0 : Int32) = 0 ∧ ¬ ((0 ≤ x0 ∧ x0 ≤ 11)))) (h1 : ((0 : Int32) = 0 ∧ x0 = 2)) : False := by first | decide | (simp only [fz_lt, fz_le, fz_eq, true_and, and_true, false_and, and_false, true_or, or_true, false_or, or_false, not_true_eq_false, not_false_eq_true, fl_m1, fl_0, fl_1, fl_2, fl_3, fl_4, fl_5, fl_6, fl_7, fl_8, fl_9, fl_10, fl_11, fl_20, fl_200, fl_5000, fl_9999] at *; omega) | (simp only [fz_lt, fz_le, fz_eq, true_and, and_true, false_and, and_false, true_or, or_true, false_or, or_false, not_true_eq_false, not_false_eq_true, fl_m1, fl_0, fl_1, fl_2, fl_3, fl_4, fl_5, fl_6, fl_7, fl_8, fl_9, fl_10, fl_11, fl_20, fl_200, fl_5000, fl_9999] at *; done) | omega
theorem fq_211 (x0 : Int32) (h0 : ((0 : Int32) = 0 ∧ ¬ ((0 ≤ x0 ∧ x0 ≤ 11)))) (h1 : ((0 : Int32) = 0 ∧ (3 ≤ x0 ∧ x0 ≤ 5))) : False := by first | decide | (simp only [fz_lt, fz_le, fz_eq, true_and, and_true, false_and, and_false, true_or, or_true, false_or, or_false, not_true_eq_false, not_false_eq_true, fl_m1, fl_0, fl_1, fl_2, fl_3, fl_4, fl_5, fl_6, fl_7, fl_8, fl_9, fl_10, fl_11, fl_20, fl_200, fl_5000, fl_9999] at *; omega) | (simp only [fz_lt, fz_le, fz_eq, true_and, and_true, false_and, and_false, true_or, or_true, false_or, or_false, not_true_eq_false, not_false_eq_true, fl_m1, fl_0, fl_1, fl_2, fl_3, fl_4, fl_5, fl_6, fl_7, fl_8, fl_9, fl_10, fl_11, fl_20, fl_200, fl_5000, fl_9999] at *; done) | omega
theorem fq_212 (x0 : Int32) (h0 : ((0 : Int32) = 0 ∧ ¬ ((0 ≤ x0 ∧ x0 ≤ 11)))) (h1 : ((0 : Int32) = 0 ∧ (6 ≤ x0 ∧ x0 ≤ 8))) : False := by first | decide | (simp only [fz_lt, fz_le, fz_eq, true_and, and_true, false_and, and_false, true_or, or_true, false_or, or_false, not_true_eq_false, not_false_eq_true, fl_m1, fl_0, fl_1, fl_2, fl_3, fl_4, fl_5, fl_6, fl_7, fl_8, fl_9, fl_10, fl_11, fl_20, fl_200, fl_5000, fl_9999] at *; omega) | (simp only [fz_lt, fz_le, fz_eq, true_and, and_true, false_and, and_false, true_or, or_true, false_or, or_false, not_true_eq_false, not_false_eq_true, fl_m1, fl_0, fl_1, fl_2, fl_3, fl_4, fl_5, fl_6, fl_7, fl_8, fl_9, fl_10, fl_11, fl_20, fl_200, fl_5000, fl_9999] at *; done) | omega
theorem fq_213 (x0 : Int32) (h0 : ((0 : Int32) = 0 ∧ ¬ ((0 ≤ x0 ∧ x0 ≤ 11)))) (h1 : ((0 : Int32) = 0 ∧ (9 ≤ x0 ∧ x0 ≤ 10))) : False := by first | decide | (simp only [fz_lt, fz_le, fz_eq, true_and, and_true, false_and, and_false, true_or, or_true, false_or, or_false, not_true_eq_false, not_false_eq_true, fl_m1, fl_0, fl_1, fl_2, fl_3, fl_4, fl_5, fl_6, fl_7, fl_8, fl_9, fl_10, fl_11, fl_20, fl_200, fl_5000, fl_9999] at *; omega) | (simp only [fz_lt, fz_le, fz_eq, true_and, and_true, false_and, and_false, true_or, or_true, false_or, or_false, not_true_eq_false, not_false_eq_true, fl_m1, fl_0, fl_1, fl_2, fl_3, fl_4, fl_5, fl_6, fl_7, fl_8, fl_9, fl_10, fl_11, fl_20, fl_200, fl_5000, fl_9999] at *; done) | omega
theorem fq_214 (x0 : Int32) (h0 : ((0 : Int32) = 0 ∧ ¬ ((0 ≤ x0 ∧ x0 ≤ 11)))) (h1 : ((0 : Int32) = 0 ∧ x0 = 11)) : False := by first | decide | (simp only [fz_lt, fz_le, fz_eq, true_and, and_true, false_and, and_false, true_or, or_true, false_or, or_false, not_true_eq_false, not_false_eq_true, fl_m1, fl_0, fl_1, fl_2, fl_3, fl_4, fl_5, fl_6, fl_7, fl_8, fl_9, fl_10, fl_11, fl_20, fl_200, fl_5000, fl_9999] at *; omega) | (simp only [fz_lt, fz_le, fz_eq, true_and, and_true, false_and, and_false, true_or, or_true, false_or, or_false, not_true_eq_false, not_false_eq_true, fl_m1, fl_0, fl_1, fl_2, fl_3, fl_4, fl_5, fl_6, fl_7, fl_8, fl_9, fl_10, fl_11, fl_20, fl_200, fl_5000, fl_9999] at *; done) | omega
theorem fq_215 (x0 x1 x2 : Int32) (h0 : (x0 = 0 ∧ (x1 = (-1) ∨ x1 = 2 ∨ ((0 ≤ x1 ∧ x1 ≤ 1) ∧ (1 ≤ x2 ∧ x2 ≤ 5000))))) : x0 = 0 := by first | decide | (simp only [fz_lt, fz_le, fz_eq, true_and, and_true, false_and, and_false, true_or, or_true, false_or, or_false, not_true_eq_false, not_false_eq_true, fl_m1, fl_0, fl_1, fl_2, fl_3, fl_4, fl_5, fl_6, fl_7, fl_8, fl_9, fl_10, fl_11, fl_20, fl_200, fl_5000, fl_9999] at *; omega) | (simp only [fz_lt, fz_le, fz_eq, true_and, and_true, false_and, and_false, true_or, or_true, false_or, or_false, not_true_eq_false, not_false_eq_true, fl_m1, fl_0, fl_1, fl_2, fl_3, fl_4, fl_5, fl_6, fl_7, fl_8, fl_9, fl_10, fl_11, fl_20, fl_200, fl_5000, fl_9999] at *; done) | omega
theorem fq_216 (x0 x1 : Int32) (h0 : ((0 : Int32) = 0 ∧ (x0 = (-1) ∨ x0 = 2 ∨ ((0 ≤ x0 ∧ x0 ≤ 1) ∧ (1 ≤ x1 ∧ x1 ≤ 5000))))) (h1 : ((0 : Int32) = 0 ∧ ¬ ((x0 = (-1) ∨ x0 = 2 ∨ ((0 ≤ x0 ∧ x0 ≤ 1) ∧ (1 ≤ x1 ∧ x1 ≤ 5000)))))) : False := by first | decide | (simp only [fz_lt, fz_le, fz_eq, true_and, and_true, false_and, and_false, true_or, or_true, false_or, or_false, not_true_eq_false, not_false_eq_true, fl_m1, fl_0, fl_1, fl_2, fl_3, fl_4, fl_5, fl_6, fl_7, fl_8, fl_9, fl_10, fl_11, fl_20, fl_200, fl_5000, fl_9999] at *; omega) | (simp only [fz_lt, fz_le, fz_eq, true_and, and_true, false_and, and_false, true_or, or_true, false_or, or_false, not_true_eq_false, not_false_eq_true, fl_m1, fl_0, fl_1, fl_2, fl_3, fl_4, fl_5, fl_6, fl_7, fl_8, fl_9, fl_10, fl_11, fl_20, fl_200, fl_5000, fl_9999] at *; done) | omega
theorem fq_217 (x0 x1 x2 : Int32) (h0 : ¬ (x0 = 0)) (h1 : (x0 = 0 ∧ ¬ ((x1 = (-1) ∨ x1 = 2 ∨ ((0 ≤ x1 ∧ x1 ≤ 1) ∧ (1 ≤ x2 ∧ x2 ≤ 5000)))))) : False := by first | decide | (simp only [fz_lt, fz_le, fz_eq, true_and, and_true, false_and, and_false, true_or, or_true, false_or, or_false, not_true_eq_false, not_false_eq_true, fl_m1, fl_0, fl_1, fl_2, fl_3, fl_4, fl_5, fl_6, fl_7, fl_8, fl_9, fl_10, fl_11, fl_20, fl_200, fl_5000, fl_9999] at *; omega) | (simp only [fz_lt, fz_le, fz_eq, true_and, and_true, false_and, and_false, true_or, or_true, false_or, or_false, not_true_eq_false, not_false_eq_true, fl_m1, fl_0, fl_1, fl_2, fl_3, fl_4, fl_5, fl_6, fl_7, fl_8, fl_9, fl_10, fl_11, fl_20, fl_200, fl_5000, fl_9999] at *; done) | omega
theorem fq_218 (x0 x1 x2 : Int32) (h0 : ¬ (x0 = 0)) (h1 : (x0 = 0 ∧ (x1 = (-1) ∨ x1 = 2 ∨ ((0 ≤ x1 ∧ x1 ≤ 1) ∧ (1 ≤ x2 ∧ x2 ≤ 5000))))) : False := by first | decide | (simp only [fz_lt, fz_le, fz_eq, true_and, and_true, false_and, and_false, true_or, or_true, false_or, or_false, not_true_eq_false, not_false_eq_true, fl_m1, fl_0, fl_1, fl_2, fl_3, fl_4, fl_5, fl_6, fl_7, fl_8, fl_9, fl_10, fl_11, fl_20, fl_200, fl_5000, fl_9999] at *; omega) | (simp only [fz_lt, fz_le, fz_eq, true_and, and_true, false_and, and_false, true_or, or_true, false_or, or_false, not_true_eq_false, not_false_eq_true, fl_m1, fl_0, fl_1, fl_2, fl_3, fl_4, fl_5, fl_6, fl_7, fl_8, fl_9, fl_10, fl_11, fl_20, fl_200, fl_5000, fl_9999] at *; done) | omega
theorem fq_219 (x0 x1 x2 : Int32) (h0 : (x0 = 0 ∧ ¬ ((x1 = (-1) ∨ x1 = 2 ∨ ((0 ≤ x1 ∧ x1 ≤ 1) ∧ (1 ≤ x2 ∧ x2 ≤ 5000)))))) : x0 = 0 := by first | decide | (simp only [fz_lt, fz_le, fz_eq, true_and, and_true, false_and, and_false, true_or, or_true, false_or, or_false, not_true_eq_false, not_false_eq_true, fl_m1, fl_0, fl_1, fl_2, fl_3, fl_4, fl_5, fl_6, fl_7, fl_8, fl_9, fl_10, fl_11, fl_20, fl_200, fl_5000, fl_9999] at *; omega) | (simp only [fz_lt, fz_le, fz_eq, true_and, and_true, false_and, and_false, true_or, or_true, false_or, or_false, not_true_eq_false, not_false_eq_true, fl_m1, fl_0, fl_1, fl_2, fl_3, fl_4, fl_5, fl_6, fl_7, fl_8, fl_9, fl_10, fl_11, fl_20, fl_200, fl_5000, fl_9999] at *; done) | omega
theorem fq_220 (x0 x1 : Int32) (h0 : ((0 : Int32) = 0 ∧ ¬ ((x0 = (-1) ∨ x0 = 2 ∨ ((0 ≤ x0 ∧ x0 ≤ 1) ∧ (1 ≤ x1 ∧ x1 ≤ 5000)))))) (h1 : ((0 : Int32) = 0 ∧ (x0 = (-1) ∨ x0 = 2 ∨ ((0 ≤ x0 ∧ x0 ≤ 1) ∧ (1 ≤ x1 ∧ x1 ≤ 5000))))) : False := by first | decide | (simp only [fz_lt, fz_le, fz_eq, true_and, and_true, false_and, and_false, true_or, or_true, false_or, or_false, not_true_eq_false, not_false_eq_true, fl_m1, fl_0, fl_1, fl_2, fl_3, fl_4, fl_5, fl_6, fl_7, fl_8, fl_9, fl_10, fl_11, fl_20, fl_200, fl_5000, fl_9999] at *; omega) | (simp only [fz_lt, fz_le, fz_eq, true_and, and_true, false_and, and_false, true_or, or_true, false_or, or_false, not_true_eq_false, not_false_eq_true, fl_m1, fl_0, fl_1, fl_2, fl_3, fl_4, fl_5, fl_6, fl_7, fl_8, fl_9, fl_10, fl_11, fl_20, fl_200, fl_5000, fl_9999] at *; done) | omega
theorem fq_221 (h0 : ((0 : Int32) = 0 ∧ ¬ (((0 : Int32) ≤ 0 ∧ (0 : Int32) ≤ 2)))) : False := by first | decide | (simp only [fz_lt, fz_le, fz_eq, true_and, and_true, false_and, and_false, true_or, or_true, false_or, or_false, not_true_eq_false, not_false_eq_true, fl_m1, fl_0, fl_1, fl_2, fl_3, fl_4, fl_5, fl_6, fl_7, fl_8, fl_9, fl_10, fl_11, fl_20, fl_200, fl_5000, fl_9999] at *; omega) | (simp only [fz_lt, fz_le, fz_eq, true_and, and_true, false_and, and_false, true_or, or_true, false_or, or_false, not_true_eq_false, not_false_eq_true, fl_m1, fl_0, fl_1, fl_2, fl_3, fl_4, fl_5, fl_6, fl_7, fl_8, fl_9, fl_10, fl_11, fl_20, fl_200, fl_5000, fl_9999] at *; done) | omega
theorem fq_222 (h0 : ((0 : Int32) = 0 ∧ ((1 : Int32) ≤ 0 ∧ (0 : Int32) ≤ 2))) : False := by first | decide | (simp only [fz_lt, fz_le, fz_eq, true_and, and_true, false_and, and_false, true_or, or_true, false_or, or_false, not_true_eq_false, not_false_eq_true, fl_m1, fl_0, fl_1, fl_2, fl_3, fl_4, fl_5, fl_6, fl_7, fl_8, fl_9, fl_10, fl_11, fl_20, fl_200, fl_5000, fl_9999] at *; omega) | (simp only [fz_lt, fz_le, fz_eq, true_and, and_true, false_and, and_false, true_or, or_true, false_or, or_false, not_true_eq_false, not_false_eq_true, fl_m1, fl_0, fl_1, fl_2, fl_3, fl_4, fl_5, fl_6, fl_7, fl_8, fl_9, fl_10, fl_11, fl_20, fl_200, fl_5000, fl_9999] at *; done) | omega
theorem fq_223 (x0 x1 : Int32) (h0 : (x0 = 0 ∧ (1 ≤ x1 ∧ x1 ≤ 2))) : x0 = 0 := by first | decide | (simp only [fz_lt, fz_le, fz_eq, true_and, and_true, false_and, and_false, true_or, or_true, false_or, or_false, not_true_eq_false, not_false_eq_true, fl_m1, fl_0, fl_1, fl_2, fl_3, fl_4, fl_5, fl_6, fl_7, fl_8, fl_9, fl_10, fl_11, fl_20, fl_200, fl_5000, fl_9999] at *; omega) | (simp only [fz_lt, fz_le, fz_eq, true_and, and_true, false_and, and_false, true_or, or_true, false_or, or_false, not_true_eq_false, not_false_eq_true, fl_m1, fl_0, fl_1, fl_2, fl_3, fl_4, fl_5, fl_6, fl_7, fl_8, fl_9, fl_10, fl_11, fl_20, fl_200, fl_5000, fl_9999] at *; done) | omega
theorem fq_224 (x0 : Int32) (h0 : ((0 : Int32) = 0 ∧ (1 ≤ x0 ∧ x0 ≤ 2))) (h1 : ((0 : Int32) = 0 ∧ ¬ ((0 ≤ x0 ∧ x0 ≤ 2)))) : False := by first | decide | (simp only [fz_lt, fz_le, fz_eq, true_and, and_true, false_and, and_false, true_or, or_true, false_or, or_false, not_true_eq_false, not_false_eq_true, fl_m1, fl_0, fl_1, fl_2, fl_3, fl_4, fl_5, fl_6, fl_7, fl_8, fl_9, fl_10, fl_11, fl_20, fl_200, fl_5000, fl_9999] at *; omega) | (simp only [fz_lt, fz_le, fz_eq, true_and, and_true, false_and, and_false, true_or, or_true, false_or, or_false, not_true_eq_false, not_false_eq_true, fl_m1, fl_0, fl_1, fl_2, fl_3, fl_4, fl_5, fl_6, fl_7, fl_8, fl_9, fl_10, fl_11, fl_20, fl_200, fl_5000, fl_9999] at *; done) | omega
theorem fq_225 (x0 : Int32) (h0 : ((0 : Int32) = 0 ∧ (1 ≤ x0 ∧ x0 ≤ 2))) (h1 : ((0 : Int32) = 0 ∧ x0 = 0)) : False := by first | decide | (simp only [fz_lt, fz_le, fz_eq, true_and, and_true, false_and, and_false, true_or, or_true, false_or, or_false, not_true_eq_false, not_false_eq_true, fl_m1, fl_0, fl_1, fl_2, fl_3, fl_4, fl_5, fl_6, fl_7, fl_8, fl_9, fl_10, fl_11, fl_20, fl_200, fl_5000, fl_9999] at *; omega) | (simp only [fz_lt, fz_le, fz_eq, true_and, and_true, false_and, and_false, true_or, or_true, false_or, or_false, not_true_eq_false, not_false_eq_true, fl_m1, fl_0, fl_1, fl_2, fl_3, fl_4, fl_5, fl_6, fl_7, fl_8, fl_9, fl_10, fl_11, fl_20, fl_200, fl_5000, fl_9999] at *; done) | omega
theorem fq_226 (x0 x1 : Int32) (h0 : ¬ (x0 = 0)) (h1 : (x0 = 0 ∧ ¬ ((0 ≤ x1 ∧ x1 ≤ 2)))) : False := by first | decide | (simp only [fz_lt, fz_le, fz_eq, true_and, and_true, false_and, and_false, true_or, or_true, false_or, or_false, not_true_eq_false, not_false_eq_true, fl_m1, fl_0, fl_1, fl_2, fl_3, fl_4, fl_5, fl_6, fl_7, fl_8, fl_9, fl_10, fl_11, fl_20, fl_200, fl_5000, fl_9999] at *; omega) | (simp only [fz_lt, fz_le, fz_eq, true_and, and_true, false_and, and_false, true_or, or_true, false_or, or_false, not_true_eq_false, not_false_eq_true, fl_m1, fl_0, fl_1, fl_2, fl_3, fl_4, fl_5, fl_6, fl_7, fl_8, fl_9, fl_10, fl_11, fl_20, fl_200, fl_5000, fl_9999] at *; done) | omega
theorem fq_227 (x0 x1 : Int32) (h0 : ¬ (x0 = 0)) (h1 : (x0 = 0 ∧ (1 ≤ x1 ∧ x1 ≤ 2))) : False := by first | decide | (simp only [fz_lt, fz_le, fz_eq, true_and, and_true, false_and, and_false, true_or, or_true, false_or, or_false, not_true_eq_false, not_false_eq_true, fl_m1, fl_0, fl_1, fl_2, fl_3, fl_4, fl_5, fl_6, fl_7, fl_8, fl_9, fl_10, fl_11, fl_20, fl_200, fl_5000, fl_9999] at *; omega) | (simp only [fz_lt, fz_le, fz_eq, true_and, and_true, false_and, and_false, true_or, or_true, false_or, or_false, not_true_eq_false, not_false_eq_true, fl_m1, fl_0, fl_1, fl_2, fl_3, fl_4, fl_5, fl_6, fl_7, fl_8, fl_9, fl_10, fl_11, fl_20, fl_200, fl_5000, fl_9999] at *; done) | omega
theorem fq_228 (x0 x1 : Int32) (h0 : (x0 = 0 ∧ ¬ ((0 ≤ x1 ∧ x1 ≤ 2)))) : x0 = 0 := by first | decide | (simp only [fz_lt, fz_le, fz_eq, true_and, and_true, false_and, and_false, true_or, or_true, false_or, or_false, not_true_eq_false, not_false_eq_true, fl_m1, fl_0, fl_1, fl_2, fl_3, fl_4, fl_5, fl_6, fl_7, fl_8, fl_9, fl_10, fl_11, fl_20, fl_200, fl_5000, fl_9999] at *; omega) | (simp only [fz_lt, fz_le, fz_eq, true_and, and_true, false_and, and_false, true_or, or_true, false_or, or_false, not_true_eq_false, not_false_eq_true, fl_m1, fl_0, fl_1, fl_2, fl_3, fl_4, fl_5, fl_6, fl_7, fl_8, fl_9, fl_10, fl_11, fl_20, fl_200, fl_5000, fl_9999] at *; done) | omega
theorem fq_229 (x0 : Int32) (h0 : ((0 : Int32) = 0 ∧ ¬ ((0 ≤ x0 ∧ x0 ≤ 2)))) (h1 : ((0 : Int32) = 0 ∧ x0 = 0)) : False := by first | decide | (simp only [fz_lt, fz_le, fz_eq, true_and, and_true, false_and, and_false, true_or, or_true, false_or, or_false, not_true_eq_false, not_false_eq_true, fl_m1, fl_0, fl_1, fl_2, fl_3, fl_4, fl_5, fl_6, fl_7, fl_8, fl_9, fl_10, fl_11, fl_20, fl_200, fl_5000, fl_9999] at *; omega) | (simp only [fz_lt, fz_le, fz_eq, true_and, and_true, false_and, and_false, true_or, or_true, false_or, or_false, not_true_eq_false, not_false_eq_true, fl_m1, fl_0, fl_1, fl_2, fl_3, fl_4, fl_5, fl_6, fl_7, fl_8, fl_9, fl_10, fl_11, fl_20, fl_200, fl_5000, fl_9999] at *; done) | omega
theorem fq_230 (x0 : Int32) (h0 : ((0 : Int32) = 0 ∧ ¬ ((0 ≤ x0 ∧ x0 ≤ 2)))) (h1 : ((0 : Int32) = 0 ∧ (1 ≤ x0 ∧ x0 ≤ 2))) : False := by first | decide | (simp only [fz_lt, fz_le, fz_eq, true_and, and_true, false_and, and_false, true_or, or_true, false_or, or_false, not_true_eq_false, not_false_eq_true, fl_m1, fl_0, fl_1, fl_2, fl_3, fl_4, fl_5, fl_6, fl_7, fl_8, fl_9, fl_10, fl_11, fl_20, fl_200, fl_5000, fl_9999] at *; omega) | (simp only [fz_lt, fz_le, fz_eq, true_and, and_true, false_and, and_false, true_or, or_true, false_or, or_false, not_true_eq_false, not_false_eq_true, fl_m1, fl_0, fl_1, fl_2, fl_3, fl_4, fl_5, fl_6, fl_7, fl_8, fl_9, fl_10, fl_11, fl_20, fl_200, fl_5000, fl_9999] at *; done) | omega
theorem fq_231 (x0 x1 : Int32) (h0 : (x0 = 0 ∧ (0 ≤ x1 ∧ x1 ≤ 9999))) : x0 = 0 := by first | decide | (simp only [fz_lt, fz_le, fz_eq, true_and, and_true, false_and, and_false, true_or, or_true, false_or, or_false, not_true_eq_false, not_false_eq_true, fl_m1, fl_0, fl_1, fl_2, fl_3, fl_4, fl_5, fl_6, fl_7, fl_8, fl_9, fl_10, fl_11, fl_20, fl_200, fl_5000, fl_9999] at *; omega) | (simp only [fz_lt, fz_le, fz_eq, true_and, and_true, false_and, and_false, true_or, or_true, false_or, or_false, not_true_eq_false, not_false_eq_true, fl_m1, fl_0, fl_1, fl_2, fl_3, fl_4, fl_5, fl_6, fl_7, fl_8, fl_9, fl_10, fl_11, fl_20, fl_200, fl_5000, fl_9999] at *; done) | omega
theorem fq_232 (x0 : Int32) (h0 : ((0 : Int32) = 0 ∧ (0 ≤ x0 ∧ x0 ≤ 9999))) (h1 : ((0 : Int32) = 0 ∧ ¬ ((0 ≤ x0 ∧ x0 ≤ 9999)))) : False := by first | decide | (simp only [fz_lt, fz_le, fz_eq, true_and, and_true, false_and, and_false, true_or, or_true, false_or, or_false, not_true_eq_false, not_false_eq_true, fl_m1, fl_0, fl_1, fl_2, fl_3, fl_4, fl_5, fl_6, fl_7, fl_8, fl_9, fl_10, fl_11, fl_20, fl_200, fl_5000, fl_9999] at *; omega) | (simp only [fz_lt, fz_le, fz_eq, true_and, and_true, false_and, and_false, true_or, or_true, false_or, or_false, not_true_eq_false, not_false_eq_true, fl_m1, fl_0, fl_1, fl_2, fl_3, fl_4, fl_5, fl_6, fl_7, fl_8, fl_9, fl_10, fl_11, fl_20, fl_200, fl_5000, fl_9999] at *; done) | omega
theorem fq_233 (x0 x1 : Int32) (h0 : ¬ (x0 = 0)) (h1 : (x0 = 0 ∧ ¬ ((0 ≤ x1 ∧ x1 ≤ 9999)))) : False := by first | decide | (simp only [fz_lt, fz_le, fz_eq, true_and, and_true, false_and, and_false, true_or, or_true, false_or, or_false, not_true_eq_false, not_false_eq_true, fl_m1, fl_0, fl_1, fl_2, fl_3, fl_4, fl_5, fl_6, fl_7, fl_8, fl_9, fl_10, fl_11, fl_20, fl_200, fl_5000, fl_9999] at *; omega) | (simp only [fz_lt, fz_le, fz_eq, true_and, and_true, false_and, and_false, true_or, or_true, false_or, or_false, not_true_eq_false, not_false_eq_true, fl_m1, fl_0, fl_1, fl_2, fl_3, fl_4, fl_5, fl_6, fl_7, fl_8, fl_9, fl_10, fl_11, fl_20, fl_200, fl_5000, fl_9999] at *; done) | omega
theorem fq_234 (x0 x1 : Int32) (h0 : ¬ (x0 = 0)) (h1 : (x0 = 0 ∧ (0 ≤ x1 ∧ x1 ≤ 9999))) : False := by first | decide | (simp only [fz_lt, fz_le, fz_eq, true_and, and_true, false_and, and_false, true_or, or_true, false_or, or_false, not_true_eq_false, not_false_eq_true, fl_m1, fl_0, fl_1, fl_2, fl_3, fl_4, fl_5, fl_6, fl_7, fl_8, fl_9, fl_10, fl_11, fl_20, fl_200, fl_5000, fl_9999] at *; omega) | (simp only [fz_lt, fz_le, fz_eq, true_and, and_true, false_and, and_false, true_or, or_true, false_or, or_false, not_true_eq_false, not_false_eq_true, fl_m1, fl_0, fl_1, fl_2, fl_3, fl_4, fl_5, fl_6, fl_7, fl_8, fl_9, fl_10, fl_11, fl_20, fl_200, fl_5000, fl_9999] at *; done) | omega
theorem fq_235 (x0 x1 : Int32) (h0 : (x0 = 0 ∧ ¬ ((0 ≤ x1 ∧ x1 ≤ 9999)))) : x0 = 0 := by first | decide | (simp only [fz_lt, fz_le, fz_eq, true_and, and_true, false_and, and_false, true_or, or_true, false_or, or_false, not_true_eq_false, not_false_eq_true, fl_m1, fl_0, fl_1, fl_2, fl_3, fl_4, fl_5, fl_6, fl_7, fl_8, fl_9, fl_10, fl_11, fl_20, fl_200, fl_5000, fl_9999] at *; omega) | (simp only [fz_lt, fz_le, fz_eq, true_and, and_true, false_and, and_false, true_or, or_true, false_or, or_false, not_true_eq_false, not_false_eq_true, fl_m1, fl_0, fl_1, fl_2, fl_3, fl_4, fl_5, fl_6, fl_7, fl_8, fl_9, fl_10, fl_11, fl_20, fl_200, fl_5000, fl_9999] at *; done) | omega
theorem fq_236 (x0 : Int32) (h0 : ((0 : Int32) = 0 ∧ ¬ ((0 ≤ x0 ∧ x0 ≤ 9999)))) (h1 : ((0 : Int32) = 0 ∧ (0 ≤ x0 ∧ x0 ≤ 9999))) : False := by first | decide | (simp only [fz_lt, fz_le, fz_eq, true_and, and_true, false_and, and_false, true_or, or_true, false_or, or_false, not_true_eq_false, not_false_eq_true, fl_m1, fl_0, fl_1, fl_2, fl_3, fl_4, fl_5, fl_6, fl_7, fl_8, fl_9, fl_10, fl_11, fl_20, fl_200, fl_5000, fl_9999] at *; omega) | (simp only [fz_lt, fz_le, fz_eq, true_and, and_true, false_and, and_false, true_or, or_true, false_or, or_false, not_true_eq_false, not_false_eq_true, fl_m1, fl_0, fl_1, fl_2, fl_3, fl_4, fl_5, fl_6, fl_7, fl_8, fl_9, fl_10, fl_11, fl_20, fl_200, fl_5000, fl_9999] at *; done) | omega
theorem fq_237 (x0 : Int32) (h0 : (1 ≤ x0 ∧ x0 ≤ 200)) (h1 : ¬ ((1 ≤ x0 ∧ x0 ≤ 200))) : False := by first | decide | (simp only [fz_lt, fz_le, fz_eq, true_and, and_true, false_and, and_false, true_or, or_true, false_or, or_false, not_true_eq_false, not_false_eq_true, fl_m1, fl_0, fl_1, fl_2, fl_3, fl_4, fl_5, fl_6, fl_7, fl_8, fl_9, fl_10, fl_11, fl_20, fl_200, fl_5000, fl_9999] at *; omega) | (simp only [fz_lt, fz_le, fz_eq, true_and, and_true, false_and, and_false, true_or, or_true, false_or, or_false, not_true_eq_false, not_false_eq_true, fl_m1, fl_0, fl_1, fl_2, fl_3, fl_4, fl_5, fl_6, fl_7, fl_8, fl_9, fl_10, fl_11, fl_20, fl_200, fl_5000, fl_9999] at *; done) | omega
theorem fq_238 (x0 : Int32) (h0 : ¬ ((1 ≤ x0 ∧ x0 ≤ 200))) (h1 : (1 ≤ x0 ∧ x0 ≤ 200)) : False := by first | decide | (simp only [fz_lt, fz_le, fz_eq, true_and, and_true, false_and, and_false, true_or, or_true, false_or, or_false, not_true_eq_false, not_false_eq_true, fl_m1, fl_0, fl_1, fl_2, fl_3, fl_4, fl_5, fl_6, fl_7, fl_8, fl_9, fl_10, fl_11, fl_20, fl_200, fl_5000, fl_9999] at *; omega) | (simp only [fz_lt, fz_le, fz_eq, true_and, and_true, false_and, and_false, true_or, or_true, false_or, or_false, not_true_eq_false, not_false_eq_true, fl_m1, fl_0, fl_1, fl_2, fl_3, fl_4, fl_5, fl_6, fl_7, fl_8, fl_9, fl_10, fl_11, fl_20, fl_200, fl_5000, fl_9999] at *; done) | omega
theorem fq_239 (x0 : Int32) (h0 : (1 ≤ x0 ∧ x0 ≤ 6)) (h1 : ¬ ((1 ≤ x0 ∧ x0 ≤ 6))) : False := by first | decide | (simp only [fz_lt, fz_le, fz_eq, true_and, and_true, false_and, and_false, true_or, or_true, false_or, or_false, not_true_eq_false, not_false_eq_true, fl_m1, fl_0, fl_1, fl_2, fl_3, fl_4, fl_5, fl_6, fl_7, fl_8, fl_9, fl_10, fl_11, fl_20, fl_200, fl_5000, fl_9999] at *; omega) | (simp only [fz_lt, fz_le, fz_eq, true_and, and_true, false_and, and_false, true_or, or_true, false_or, or_false, not_true_eq_false, not_false_eq_true, fl_m1, fl_0, fl_1, fl_2, fl_3, fl_4, fl_5, fl_6, fl_7, fl_8, fl_9, fl_10, fl_11, fl_20, fl_200, fl_5000, fl_9999] at *; done) | omega
theorem fq_240 (x0 : Int32) (h0 : ¬ ((1 ≤ x0 ∧ x0 ≤ 6))) (h1 : (1 ≤ x0 ∧ x0 ≤ 6)) : False := by first | decide | (simp only [fz_lt, fz_le, fz_eq, true_and, and_true, false_and, and_false, true_or, or_true, false_or, or_false, not_true_eq_false, not_false_eq_true, fl_m1, fl_0, fl_1, fl_2, fl_3, fl_4, fl_5, fl_6, fl_7, fl_8, fl_9, fl_10, fl_11, fl_20, fl_200, fl_5000, fl_9999] at *; omega) | (simp only [fz_lt, fz_le, fz_eq, true_and, and_true, false_and, and_false, true_or, or_true, false_or, or_false, not_true_eq_false, not_false_eq_true, fl_m1, fl_0, fl_1, fl_2, fl_3, fl_4, fl_5, fl_6, fl_7, fl_8, fl_9, fl_10, fl_11, fl_20, fl_200, fl_5000, fl_9999] at *; done) | omega
theorem fq_241 (x0 x1 : Int32) (h0 : (¬ ((0 ≤ x0 ∧ x0 ≤ 7)) ∨ ¬ (x1 = 0))) (h1 : ((0 ≤ x0 ∧ x0 ≤ 7) ∧ x1 = 0)) : False := by first | decide | (simp only [fz_lt, fz_le, fz_eq, true_and, and_true, false_and, and_false, true_or, or_true, false_or, or_false, not_true_eq_false, not_false_eq_true, fl_m1, fl_0, fl_1, fl_2, fl_3, fl_4, fl_5, fl_6, fl_7, fl_8, fl_9, fl_10, fl_11, fl_20, fl_200, fl_5000, fl_9999] at *; omega) | (simp only [fz_lt, fz_le, fz_eq, true_and, and_true, false_and, and_false, true_or, or_true, false_or, or_false, not_true_eq_false, not_false_eq_true, fl_m1, fl_0, fl_1, fl_2, fl_3, fl_4, fl_5, fl_6, fl_7, fl_8, fl_9, fl_10, fl_11, fl_20, fl_200, fl_5000, fl_9999] at *; done) | omega
theorem fq_242 (x0 x1 : Int32) (h0 : ((0 ≤ x0 ∧ x0 ≤ 7) ∧ x1 = 0)) : x1 = 0 := by first | decide | (simp only [fz_lt, fz_le, fz_eq, true_and, and_true, false_and, and_false, true_or, or_true, false_or, or_false, not_true_eq_false, not_false_eq_true, fl_m1, fl_0, fl_1, fl_2, fl_3, fl_4, fl_5, fl_6, fl_7, fl_8, fl_9, fl_10, fl_11, fl_20, fl_200, fl_5000, fl_9999] at *; omega) | (simp only [fz_lt, fz_le, fz_eq, true_and, and_true, false_and, and_false, true_or, or_true, false_or, or_false, not_true_eq_false, not_false_eq_true, fl_m1, fl_0, fl_1, fl_2, fl_3, fl_4, fl_5, fl_6, fl_7, fl_8, fl_9, fl_10, fl_11, fl_20, fl_200, fl_5000, fl_9999] at *; done) | omega
theorem fq_243 (x0 : Int32) (h0 : ((0 ≤ x0 ∧ x0 ≤ 7) ∧ (0 : Int32) = 0)) (h1 : (¬ ((0 ≤ x0 ∧ x0 ≤ 7)) ∨ ¬ ((0 : Int32) = 0))) : False := by first | decide | (simp only [fz_lt, fz_le, fz_eq, true_and, and_true, false_and, and_false, true_or, or_true, false_or, or_false, not_true_eq_false, not_false_eq_true, fl_m1, fl_0, fl_1, fl_2, fl_3, fl_4, fl_5, fl_6, fl_7, fl_8, fl_9, fl_10, fl_11, fl_20, fl_200, fl_5000, fl_9999] at *; omega) | (simp only [fz_lt, fz_le, fz_eq, true_and, and_true, false_and, and_false, true_or, or_true, false_or, or_false, not_true_eq_false, not_false_eq_true, fl_m1, fl_0, fl_1, fl_2, fl_3, fl_4, fl_5, fl_6, fl_7, fl_8, fl_9, fl_10, fl_11, fl_20, fl_200, fl_5000, fl_9999] at *; done) | omega
theorem fq_244 (h0 : ¬ (((0 : Int32) ≤ 0 ∧ (0 : Int32) ≤ 9))) : False := by first | decide | (simp only [fz_lt, fz_le, fz_eq, true_and, and_true, false_and, and_false, true_or, or_true, false_or, or_false, not_true_eq_false, not_false_eq_true, fl_m1, fl_0, fl_1, fl_2, fl_3, fl_4, fl_5, fl_6, fl_7, fl_8, fl_9, fl_10, fl_11, fl_20, fl_200, fl_5000, fl_9999] at *; omega) | (simp only [fz_lt, fz_le, fz_eq, true_and, and_true, false_and, and_false, true_or, or_true, false_or, or_false, not_true_eq_false, not_false_eq_true, fl_m1, fl_0, fl_1, fl_2, fl_3, fl_4, fl_5, fl_6, fl_7, fl_8, fl_9, fl_10, fl_11, fl_20, fl_200, fl_5000, fl_9999] at *; done) | omega
theorem fq_245 (h0 : ((1 : Int32) ≤ 0 ∧ (0 : Int32) ≤ 9)) : False := by first | decide | (simp only [fz_lt, fz_le, fz_eq, true_and, and_true, false_and, and_false, true_or, or_true, false_or, or_false, not_true_eq_false, not_false_eq_true, fl_m1, fl_0, fl_1, fl_2, fl_3, fl_4, fl_5, fl_6, fl_7, fl_8, fl_9, fl_10, fl_11, fl_20, fl_200, fl_5000, fl_9999] at *; omega) | (simp only [fz_lt, fz_le, fz_eq, true_and, and_true, false_and, and_false, true_or, or_true, false_or, or_false, not_true_eq_false, not_false_eq_true, fl_m1, fl_0, fl_1, fl_2, fl_3, fl_4, fl_5, fl_6, fl_7, fl_8, fl_9, fl_10, fl_11, fl_20, fl_200, fl_5000, fl_9999] at *; done) | omega
theorem fq_246 (x0 : Int32) (h0 : (1 ≤ x0 ∧ x0 ≤ 9)) (h1 : ¬ ((0 ≤ x0 ∧ x0 ≤ 9))) : False := by first | decide | (simp only [fz_lt, fz_le, fz_eq, true_and, and_true, false_and, and_false, true_or, or_true, false_or, or_false, not_true_eq_false, not_false_eq_true, fl_m1, fl_0, fl_1, fl_2, fl_3, fl_4, fl_5, fl_6, fl_7, fl_8, fl_9, fl_10, fl_11, fl_20, fl_200, fl_5000, fl_9999] at *; omega) | (simp only [fz_lt, fz_le, fz_eq, true_and, and_true, false_and, and_false, true_or, or_true, false_or, or_false, not_true_eq_false, not_false_eq_true, fl_m1, fl_0, fl_1, fl_2, fl_3, fl_4, fl_5, fl_6, fl_7, fl_8, fl_9, fl_10, fl_11, fl_20, fl_200, fl_5000, fl_9999] at *; done) | omega
theorem fq_247 (x0 : Int32) (h0 : (1 ≤ x0 ∧ x0 ≤ 9)) (h1 : x0 = 0) : False := by first | decide | (simp only [fz_lt, fz_le, fz_eq, true_and, and_true, false_and, and_false, true_or, or_true, false_or, or_false, not_true_eq_false, not_false_eq_true, fl_m1, fl_0, fl_1, fl_2, fl_3, fl_4, fl_5, fl_6, fl_7, fl_8, fl_9, fl_10, fl_11, fl_20, fl_200, fl_5000, fl_9999] at *; omega) | (simp only [fz_lt, fz_le, fz_eq, true_and, and_true, false_and, and_false, true_or, or_true, false_or, or_false, not_true_eq_false, not_false_eq_true, fl_m1, fl_0, fl_1, fl_2, fl_3, fl_4, fl_5, fl_6, fl_7, fl_8, fl_9, fl_10, fl_11, fl_20, fl_200, fl_5000, fl_9999] at *; done) | omega
theorem fq_248 (x0 : Int32) (h0 : ¬ ((0 ≤ x0 ∧ x0 ≤ 9))) (h1 : x0 = 0) : False := by first | decide | (simp only [fz_lt, fz_le, fz_eq, true_and, and_true, false_and, and_false, true_or, or_true, false_or, or_false, not_true_eq_false, not_false_eq_true, fl_m1, fl_0, fl_1, fl_2, fl_3, fl_4, fl_5, fl_6, fl_7, fl_8, fl_9, fl_10, fl_11, fl_20, fl_200, fl_5000, fl_9999] at *; omega) | (simp only [fz_lt, fz_le, fz_eq, true_and, and_true, false_and, and_false, true_or, or_true, false_or, or_false, not_true_eq_false, not_false_eq_true, fl_m1, fl_0, fl_1, fl_2, fl_3, fl_4, fl_5, fl_6, fl_7, fl_8, fl_9, fl_10, fl_11, fl_20, fl_200, fl_5000, fl_9999] at *; done) | omega
theorem fq_249 (x0 : Int32) (h0 : ¬ ((0 ≤ x0 ∧ x0 ≤ 9))) (h1 : (1 ≤ x0 ∧ x0 ≤ 9)) : False := by first | decide | (simp only [fz_lt, fz_le, fz_eq, true_and, and_true, false_and, and_false, true_or, or_true, false_or, or_false, not_true_eq_false, not_false_eq_true, fl_m1, fl_0, fl_1, fl_2, fl_3, fl_4, fl_5, fl_6, fl_7, fl_8, fl_9, fl_10, fl_11, fl_20, fl_200, fl_5000, fl_9999] at *; omega) | (simp only [fz_lt, fz_le, fz_eq, true_and, and_true, false_and, and_false, true_or, or_true, false_or, or_false, not_true_eq_false, not_false_eq_true, fl_m1, fl_0, fl_1, fl_2, fl_3, fl_4, fl_5, fl_6, fl_7, fl_8, fl_9, fl_10, fl_11, fl_20, fl_200, fl_5000, fl_9999] at *; done) | omega
theorem fq_250 (x0 x1 : Int32) (h0 : ((0 ≤ x0 ∧ x0 ≤ 9999) ∧ (0 ≤ x1 ∧ x1 ≤ 3))) (h1 : (¬ ((0 ≤ x0 ∧ x0 ≤ 9999)) ∨ ¬ ((0 ≤ x1 ∧ x1 ≤ 3)))) : False := by first | decide | (simp only [fz_lt, fz_le, fz_eq, true_and, and_true, false_and, and_false, true_or, or_true, false_or, or_false, not_true_eq_false, not_false_eq_true, fl_m1, fl_0, fl_1, fl_2, fl_3, fl_4, fl_5, fl_6, fl_7, fl_8, fl_9, fl_10, fl_11, fl_20, fl_200, fl_5000, fl_9999] at *; omega) | (simp only [fz_lt, fz_le, fz_eq, true_and, and_true, false_and, and_false, true_or, or_true, false_or, or_false, not_true_eq_false, not_false_eq_true, fl_m1, fl_0, fl_1, fl_2, fl_3, fl_4, fl_5, fl_6, fl_7, fl_8, fl_9, fl_10, fl_11, fl_20, fl_200, fl_5000, fl_9999] at *; done) | omega
theorem fq_251 (x0 x1 : Int32) (h0 : (¬ ((0 ≤ x0 ∧ x0 ≤ 9999)) ∨ ¬ ((0 ≤ x1 ∧ x1 ≤ 3)))) (h1 : ((0 ≤ x0 ∧ x0 ≤ 9999) ∧ (0 ≤ x1 ∧ x1 ≤ 3))) : False := by first | decide | (simp only [fz_lt, fz_le, fz_eq, true_and, and_true, false_and, and_false, true_or, or_true, false_or, or_false, not_true_eq_false, not_false_eq_true, fl_m1, fl_0, fl_1, fl_2, fl_3, fl_4, fl_5, fl_6, fl_7, fl_8, fl_9, fl_10, fl_11, fl_20, fl_200, fl_5000, fl_9999] at *; omega) | (simp only [fz_lt, fz_le, fz_eq, true_and, and_true, false_and, and_false, true_or, or_true, false_or, or_false, not_true_eq_false, not_false_eq_true, fl_m1, fl_0, fl_1, fl_2, fl_3, fl_4, fl_5, fl_6, fl_7, fl_8, fl_9, fl_10, fl_11, fl_20, fl_200, fl_5000, fl_9999] at *; done) | omega
theorem fq_252 (x0 : Int32) (h0 : ¬ ((0 ≤ x0 ∧ x0 ≤ 9999))) (h1 : (0 ≤ x0 ∧ x0 ≤ 9999)) : False := by first | decide | (simp only [fz_lt, fz_le, fz_eq, true_and, and_true, false_and, and_false, true_or, or_true, false_or, or_false, not_true_eq_false, not_false_eq_true, fl_m1, fl_0, fl_1, fl_2, fl_3, fl_4, fl_5, fl_6, fl_7, fl_8, fl_9, fl_10, fl_11, fl_20, fl_200, fl_5000, fl_9999] at *; omega) | (simp only [fz_lt, fz_le, fz_eq, true_and, and_true, false_and, and_false, true_or, or_true, false_or, or_false, not_true_eq_false, not_false_eq_true, fl_m1, fl_0, fl_1, fl_2, fl_3, fl_4, fl_5, fl_6, fl_7, fl_8, fl_9, fl_10, fl_11, fl_20, fl_200, fl_5000, fl_9999] at *; done) | omega
theorem fq_253 (x0 : Int32) (h0 : (0 ≤ x0 ∧ x0 ≤ 9999)) (h1 : ¬ ((0 ≤ x0 ∧ x0 ≤ 9999))) : False := by first | decide | (simp only [fz_lt, fz_le, fz_eq, true_and, and_true, false_and, and_false, true_or, or_true, false_or, or_false, not_true_eq_false, not_false_eq_true, fl_m1, fl_0, fl_1, fl_2, fl_3, fl_4, fl_5, fl_6, fl_7, fl_8, fl_9, fl_10, fl_11, fl_20, fl_200, fl_5000, fl_9999] at *; omega) | (simp only [fz_lt, fz_le, fz_eq, true_and, and_true, false_and, and_false, true_or, or_true, false_or, or_false, not_true_eq_false, not_false_eq_true, fl_m1, fl_0, fl_1, fl_2, fl_3, fl_4, fl_5, fl_6, fl_7, fl_8, fl_9, fl_10, fl_11, fl_20, fl_200, fl_5000, fl_9999] at *; done) | omega
