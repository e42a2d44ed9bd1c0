/-! 10.b.law -/
section
theorem lawk_0 : ∀ q ∈ lawc_0, IOK mr_336 q := WLF 0 (by decide +kernel) (by decide +kernel)
theorem lawk_1 : ∀ q ∈ lawc_1, IOK mr_336 q := WLF 16 (by decide +kernel) (by decide +kernel)
theorem lawk_2 : ∀ q ∈ lawc_2, IOK mr_336 q := WLF 27 (by decide +kernel) (by decide +kernel)
theorem lawk_3 : ∀ q ∈ lawc_3, IOK mr_336 q := WLF 306 (by decide +kernel) (by decide +kernel)
theorem lawk_4 : ∀ q ∈ lawc_4, IOK mr_336 q := WLF 314 (by decide +kernel) (by decide +kernel)
theorem lawk_5 : ∀ q ∈ lawc_5, IOK mr_336 q := WLF 322 (by decide +kernel) (by decide +kernel)
theorem lawk_6 : ∀ q ∈ lawc_6, IOK mr_336 q := WLF 330 (by decide +kernel) (by decide +kernel)
theorem lawk_7 : ∀ q ∈ lawc_7, IOK mr_336 q := WLF 340 (by decide +kernel) (by decide +kernel)
theorem lawk_8 : ∀ q ∈ lawc_8, IOK mr_336 q := WLF 348 (by decide +kernel) (by decide +kernel)
theorem lawk_9 : ∀ q ∈ lawc_9, IOK mr_336 q := WLF 356 (by decide +kernel) (by decide +kernel)
theorem lawk_10 : ∀ q ∈ lawc_10, IOK mr_336 q := WLF 368 (by decide +kernel) (by decide +kernel)
theorem lawk_11 : ∀ q ∈ lawc_11, IOK mr_336 q := WLF 378 (by decide +kernel) (by decide +kernel)
theorem lawk_12 : ∀ q ∈ lawc_12, IOK mr_336 q := WLF 390 (by decide +kernel) (by decide +kernel)
theorem lawk_13 : ∀ q ∈ lawc_13, IOK mr_336 q := WLF 404 (by decide +kernel) (by decide +kernel)
theorem lawk_14 : ∀ q ∈ lawc_14, IOK mr_336 q := WLF 414 (by decide +kernel) (by decide +kernel)
theorem lawk_15 : ∀ q ∈ lawc_15, IOK mr_336 q := WLF 426 (by decide +kernel) (by decide +kernel)
theorem lawk_16 : ∀ q ∈ lawc_16, IOK mr_336 q := WLF 434 (by decide +kernel) (by decide +kernel)
theorem lawk_17 : ∀ q ∈ lawc_17, IOK mr_336 q := WLF 444 (by decide +kernel) (by decide +kernel)
theorem lawk_18 : ∀ q ∈ lawc_18, IOK mr_336 q := WLF 452 (by decide +kernel) (by decide +kernel)
theorem lawk_19 : ∀ q ∈ lawc_19, IOK mr_336 q := WLF 464 (by decide +kernel) (by decide +kernel)
theorem lawk_20 : ∀ q ∈ lawc_20, IOK mr_336 q := WLF 472 (by decide +kernel) (by decide +kernel)
theorem lawk_21 : ∀ q ∈ lawc_21, IOK mr_336 q := WLF 482 (by decide +kernel) (by decide +kernel)
theorem lawk_22 : ∀ q ∈ lawc_22, IOK mr_336 q := WLF 490 (by decide +kernel) (by decide +kernel)
theorem lawk_23 : ∀ q ∈ lawc_23, IOK mr_336 q := WLF 502 (by decide +kernel) (by decide +kernel)
theorem lawk_24 : ∀ q ∈ lawc_24, IOK mr_336 q := WLF 510 (by decide +kernel) (by decide +kernel)
theorem lawk_25 : ∀ q ∈ lawc_25, IOK mr_336 q := WLF 520 (by decide +kernel) (by decide +kernel)
theorem lawk_26 : ∀ q ∈ lawc_26, IOK mr_336 q := WLF 528 (by decide +kernel) (by decide +kernel)
theorem lawk_27 : ∀ q ∈ lawc_27, IOK mr_336 q := WLF 540 (by decide +kernel) (by decide +kernel)
theorem lawk_28 : ∀ q ∈ lawc_28, IOK mr_336 q := WLF 550 (by decide +kernel) (by decide +kernel)
theorem lawk_29 : ∀ q ∈ lawc_29, IOK mr_336 q := WLF 558 (by decide +kernel) (by decide +kernel)
theorem lawk_30 : ∀ q ∈ lawc_30, IOK mr_336 q := WLF 570 (by decide +kernel) (by decide +kernel)
theorem lawk_31 : ∀ q ∈ lawc_31, IOK mr_336 q := WLF 578 (by decide +kernel) (by decide +kernel)
theorem lawk_32 : ∀ q ∈ lawc_32, IOK mr_336 q := WLF 588 (by decide +kernel) (by decide +kernel)
theorem lawk_33 : ∀ q ∈ lawc_33, IOK mr_336 q := WLF 598 (by decide +kernel) (by decide +kernel)
theorem lawk_34 : ∀ q ∈ lawc_34, IOK mr_336 q := WLF 610 (by decide +kernel) (by decide +kernel)
theorem lawk_35 : ∀ q ∈ lawc_35, IOK mr_336 q := WLF 620 (by decide +kernel) (by decide +kernel)
theorem lawk_36 : ∀ q ∈ lawc_36, IOK mr_336 q := WLF 630 (by decide +kernel) (by decide +kernel)
theorem lawk_37 : ∀ q ∈ lawc_37, IOK mr_336 q := WLF 640 (by decide +kernel) (by decide +kernel)
theorem lawk_38 : ∀ q ∈ lawc_38, IOK mr_336 q := WLF 652 (by decide +kernel) (by decide +kernel)
theorem lawk_39 : ∀ q ∈ lawc_39, IOK mr_336 q := WLF 662 (by decide +kernel) (by decide +kernel)
theorem lawk_40 : ∀ q ∈ lawc_40, IOK mr_336 q := WLF 670 (by decide +kernel) (by decide +kernel)
theorem lawk_41 : ∀ q ∈ lawc_41, IOK mr_336 q := WLF 682 (by decide +kernel) (by decide +kernel)
theorem lawk_42 : ∀ q ∈ lawc_42, IOK mr_336 q := WLF 690 (by decide +kernel) (by decide +kernel)
theorem lawk_43 : ∀ q ∈ lawc_43, IOK mr_336 q := WLF 700 (by decide +kernel) (by decide +kernel)
theorem lawk_44 : ∀ q ∈ lawc_44, IOK mr_336 q := WLF 710 (by decide +kernel) (by decide +kernel)
theorem lawk_45 : ∀ q ∈ lawc_45, IOK mr_336 q := WLF 722 (by decide +kernel) (by decide +kernel)
theorem lawk_46 : ∀ q ∈ lawc_46, IOK mr_336 q := WLF 732 (by decide +kernel) (by decide +kernel)
theorem lawk_47 : ∀ q ∈ lawc_47, IOK mr_336 q := WLF 742 (by decide +kernel) (by decide +kernel)
theorem lawk_48 : ∀ q ∈ lawc_48, IOK mr_336 q := WLF 752 (by decide +kernel) (by decide +kernel)
theorem lawk_49 : ∀ q ∈ lawc_49, IOK mr_336 q := WLF 760 (by decide +kernel) (by decide +kernel)
theorem lawk_50 : ∀ q ∈ lawc_50, IOK mr_336 q := WLF 772 (by decide +kernel) (by decide +kernel)
theorem lawk_51 : ∀ q ∈ lawc_51, IOK mr_336 q := WLF 780 (by decide +kernel) (by decide +kernel)
theorem lawk_52 : ∀ q ∈ lawc_52, IOK mr_336 q := WLF 790 (by decide +kernel) (by decide +kernel)
theorem lawk_53 : ∀ q ∈ lawc_53, IOK mr_336 q := WLF 802 (by decide +kernel) (by decide +kernel)
theorem lawk_54 : ∀ q ∈ lawc_54, IOK mr_336 q := WLF 812 (by decide +kernel) (by decide +kernel)
theorem lawk_55 : ∀ q ∈ lawc_55, IOK mr_336 q := WLF 822 (by decide +kernel) (by decide +kernel)
theorem lawk_56 : ∀ q ∈ lawc_56, IOK mr_336 q := WLF 834 (by decide +kernel) (by decide +kernel)
theorem lawk_57 : ∀ q ∈ lawc_57, IOK mr_336 q := WLF 844 (by decide +kernel) (by decide +kernel)
theorem lawk_58 : ∀ q ∈ lawc_58, IOK mr_336 q := WLF 858 (by decide +kernel) (by decide +kernel)
theorem lawk_59 : ∀ q ∈ lawc_59, IOK mr_336 q := WLF 874 (by decide +kernel) (by decide +kernel)
theorem lawk_60 : ∀ q ∈ lawc_60, IOK mr_336 q := WLF 882 (by decide +kernel) (by decide +kernel)
theorem lawk_61 : ∀ q ∈ lawc_61, IOK mr_336 q := WLF 890 (by decide +kernel) (by decide +kernel)
theorem lawk_62 : ∀ q ∈ lawc_62, IOK mr_336 q := WLF 900 (by decide +kernel) (by decide +kernel)
theorem lawk_63 : ∀ q ∈ lawc_63, IOK mr_336 q := WLF 908 (by decide +kernel) (by decide +kernel)
theorem lawk_64 : ∀ q ∈ lawc_64, IOK mr_336 q := WLF 922 (by decide +kernel) (by decide +kernel)
theorem lawk_65 : ∀ q ∈ lawc_65, IOK mr_336 q := WLF 934 (by decide +kernel) (by decide +kernel)
theorem lawk_66 : ∀ q ∈ lawc_66, IOK mr_336 q := WLF 942 (by decide +kernel) (by decide +kernel)
theorem lawk_67 : ∀ q ∈ lawc_67, IOK mr_336 q := WLF 952 (by decide +kernel) (by decide +kernel)
theorem lawk_68 : ∀ q ∈ lawc_68, IOK mr_336 q := WLF 960 (by decide +kernel) (by decide +kernel)
theorem lawk_69 : ∀ q ∈ lawc_69, IOK mr_336 q := WLF 970 (by decide +kernel) (by decide +kernel)
theorem lawk_70 : ∀ q ∈ lawc_70, IOK mr_336 q := WLF 982 (by decide +kernel) (by decide +kernel)
theorem lawk_71 : ∀ q ∈ lawc_71, IOK mr_336 q := WLF 992 (by decide +kernel) (by decide +kernel)
theorem lawk_72 : ∀ q ∈ lawc_72, IOK mr_336 q := WLF 1002 (by decide +kernel) (by decide +kernel)
theorem lawk_73 : ∀ q ∈ lawc_73, IOK mr_336 q := WLF 1012 (by decide +kernel) (by decide +kernel)
theorem lawk_74 : ∀ q ∈ lawc_74, IOK mr_336 q := WLF 1024 (by decide +kernel) (by decide +kernel)
theorem lawk_75 : ∀ q ∈ lawc_75, IOK mr_336 q := WLF 1034 (by decide +kernel) (by decide +kernel)
theorem lawk_76 : ∀ q ∈ lawc_76, IOK mr_336 q := WLF 1042 (by decide +kernel) (by decide +kernel)
theorem lawk_77 : ∀ q ∈ lawc_77, IOK mr_336 q := WLF 1054 (by decide +kernel) (by decide +kernel)
theorem lawk_78 : ∀ q ∈ lawc_78, IOK mr_336 q := WLF 1062 (by decide +kernel) (by decide +kernel)
theorem lawk_79 : ∀ q ∈ lawc_79, IOK mr_336 q := WLF 1072 (by decide +kernel) (by decide +kernel)
theorem lawk_80 : ∀ q ∈ lawc_80, IOK mr_336 q := WLF 1082 (by decide +kernel) (by decide +kernel)
theorem lawk_81 : ∀ q ∈ lawc_81, IOK mr_336 q := WLF 1092 (by decide +kernel) (by decide +kernel)
theorem lawk_82 : ∀ q ∈ lawc_82, IOK mr_336 q := WLF 1100 (by decide +kernel) (by decide +kernel)
theorem lawk_83 : ∀ q ∈ lawc_83, IOK mr_336 q := WLF 1110 (by decide +kernel) (by decide +kernel)
theorem lawk_84 : ∀ q ∈ lawc_84, IOK mr_336 q := WLF 1118 (by decide +kernel) (by decide +kernel)
theorem lawk_85 : ∀ q ∈ lawc_85, IOK mr_336 q := WLF 1130 (by decide +kernel) (by decide +kernel)
theorem lawk_86 : ∀ q ∈ lawc_86, IOK mr_336 q := WLF 1140 (by decide +kernel) (by decide +kernel)
theorem lawk_87 : ∀ q ∈ lawc_87, IOK mr_336 q := WLF 1152 (by decide +kernel) (by decide +kernel)
theorem lawk_88 : ∀ q ∈ lawc_88, IOK mr_336 q := WLF 1160 (by decide +kernel) (by decide +kernel)
theorem lawk_89 : ∀ q ∈ lawc_89, IOK mr_336 q := WLF 1170 (by decide +kernel) (by decide +kernel)
theorem lawk_90 : ∀ q ∈ lawc_90, IOK mr_336 q := WLF 1180 (by decide +kernel) (by decide +kernel)
theorem lawk_91 : ∀ q ∈ lawc_91, IOK mr_336 q := WLF 1190 (by decide +kernel) (by decide +kernel)
theorem lawk_92 : ∀ q ∈ lawc_92, IOK mr_336 q := WLF 1200 (by decide +kernel) (by decide +kernel)
theorem lawk_93 : ∀ q ∈ lawc_93, IOK mr_336 q := WLF 1208 (by decide +kernel) (by decide +kernel)
theorem lawk_94 : ∀ q ∈ lawc_94, IOK mr_336 q := WLF 1220 (by decide +kernel) (by decide +kernel)
theorem lawk_95 : ∀ q ∈ lawc_95, IOK mr_336 q := WLF 1228 (by decide +kernel) (by decide +kernel)
theorem lawk_96 : ∀ q ∈ lawc_96, IOK mr_336 q := WLF 1238 (by decide +kernel) (by decide +kernel)
theorem lawk_97 : ∀ q ∈ lawc_97, IOK mr_336 q := WLF 1250 (by decide +kernel) (by decide +kernel)
theorem lawk_98 : ∀ q ∈ lawc_98, IOK mr_336 q := WLF 1260 (by decide +kernel) (by decide +kernel)
theorem lawk_99 : ∀ q ∈ lawc_99, IOK mr_336 q := WLF 1270 (by decide +kernel) (by decide +kernel)
theorem lawk_100 : ∀ q ∈ lawc_100, IOK mr_336 q := WLF 1282 (by decide +kernel) (by decide +kernel)
theorem lawk_101 : ∀ q ∈ lawc_101, IOK mr_336 q := WLF 1292 (by decide +kernel) (by decide +kernel)
theorem lawk_102 : ∀ q ∈ lawc_102, IOK mr_336 q := WLF 1302 (by decide +kernel) (by decide +kernel)
theorem lawk_103 : ∀ q ∈ lawc_103, IOK mr_336 q := WLF 1310 (by decide +kernel) (by decide +kernel)
theorem lawk_104 : ∀ q ∈ lawc_104, IOK mr_336 q := WLF 1320 (by decide +kernel) (by decide +kernel)
theorem lawk_105 : ∀ q ∈ lawc_105, IOK mr_336 q := WLF 1328 (by decide +kernel) (by decide +kernel)
theorem lawk_106 : ∀ q ∈ lawc_106, IOK mr_336 q := WLF 1340 (by decide +kernel) (by decide +kernel)
theorem lawk_107 : ∀ q ∈ lawc_107, IOK mr_336 q := WLF 1350 (by decide +kernel) (by decide +kernel)
theorem lawk_108 : ∀ q ∈ lawc_108, IOK mr_336 q := WLF 1362 (by decide +kernel) (by decide +kernel)
theorem lawk_109 : ∀ q ∈ lawc_109, IOK mr_336 q := WLF 1372 (by decide +kernel) (by decide +kernel)
theorem lawk_110 : ∀ q ∈ lawc_110, IOK mr_336 q := WLF 1382 (by decide +kernel) (by decide +kernel)
theorem lawk_111 : ∀ q ∈ lawc_111, IOK mr_336 q := WLF 1392 (by decide +kernel) (by decide +kernel)
theorem lawk_112 : ∀ q ∈ lawc_112, IOK mr_336 q := WLF 1402 (by decide +kernel) (by decide +kernel)
theorem lawk_113 : ∀ q ∈ lawc_113, IOK mr_336 q := WLF 1410 (by decide +kernel) (by decide +kernel)
theorem lawk_114 : ∀ q ∈ lawc_114, IOK mr_336 q := WLF 1422 (by decide +kernel) (by decide +kernel)
theorem lawk_115 : ∀ q ∈ lawc_115, IOK mr_336 q := WLF 1432 (by decide +kernel) (by decide +kernel)
theorem lawk_116 : ∀ q ∈ lawc_116, IOK mr_336 q := WLF 1440 (by decide +kernel) (by decide +kernel)
theorem lawk_117 : ∀ q ∈ lawc_117, IOK mr_336 q := WLF 1452 (by decide +kernel) (by decide +kernel)
theorem lawk_118 : ∀ q ∈ lawc_118, IOK mr_336 q := WLF 1460 (by decide +kernel) (by decide +kernel)
theorem lawk_119 : ∀ q ∈ lawc_119, IOK mr_336 q := WLF 1470 (by decide +kernel) (by decide +kernel)
theorem lawk_120 : ∀ q ∈ lawc_120, IOK mr_336 q := WLF 1480 (by decide +kernel) (by decide +kernel)
theorem lawk_121 : ∀ q ∈ lawc_121, IOK mr_336 q := WLF 1490 (by decide +kernel) (by decide +kernel)
theorem lawk_122 : ∀ q ∈ lawc_122, IOK mr_336 q := WLF 1500 (by decide +kernel) (by decide +kernel)
theorem lawk_123 : ∀ q ∈ lawc_123, IOK mr_336 q := WLF 1508 (by decide +kernel) (by decide +kernel)
theorem lawk_124 : ∀ q ∈ lawc_124, IOK mr_336 q := WLF 1520 (by decide +kernel) (by decide +kernel)
theorem lawk_125 : ∀ q ∈ lawc_125, IOK mr_336 q := WLF 1530 (by decide +kernel) (by decide +kernel)
theorem lawk_126 : ∀ q ∈ lawc_126, IOK mr_336 q := WLF 1542 (by decide +kernel) (by decide +kernel)
theorem lawk_127 : ∀ q ∈ lawc_127, IOK mr_336 q := WLF 1552 (by decide +kernel) (by decide +kernel)
theorem lawk_128 : ∀ q ∈ lawc_128, IOK mr_336 q := WLF 1564 (by decide +kernel) (by decide +kernel)
theorem lawk_129 : ∀ q ∈ lawc_129, IOK mr_336 q := WLF 1572 (by decide +kernel) (by decide +kernel)
theorem lawk_130 : ∀ q ∈ lawc_130, IOK mr_336 q := WLF 1582 (by decide +kernel) (by decide +kernel)
theorem lawk_131 : ∀ q ∈ lawc_131, IOK mr_336 q := WLF 1592 (by decide +kernel) (by decide +kernel)
theorem lawk_132 : ∀ q ∈ lawc_132, IOK mr_336 q := WLF 1606 (by decide +kernel) (by decide +kernel)
theorem lawk_133 : ∀ q ∈ lawc_133, IOK mr_336 q := WLF 1618 (by decide +kernel) (by decide +kernel)
theorem lawk_134 : ∀ q ∈ lawc_134, IOK mr_336 q := WLF 1628 (by decide +kernel) (by decide +kernel)
theorem lawk_135 : ∀ q ∈ lawc_135, IOK mr_336 q := WLF 1638 (by decide +kernel) (by decide +kernel)
theorem lawk_136 : ∀ q ∈ lawc_136, IOK mr_336 q := WLF 1648 (by decide +kernel) (by decide +kernel)
theorem lawk_137 : ∀ q ∈ lawc_137, IOK mr_336 q := WLF 1656 (by decide +kernel) (by decide +kernel)
theorem lawk_138 : ∀ q ∈ lawc_138, IOK mr_336 q := WLF 1668 (by decide +kernel) (by decide +kernel)
theorem lawk_139 : ∀ q ∈ lawc_139, IOK mr_336 q := WLF 1678 (by decide +kernel) (by decide +kernel)
theorem lawk_140 : ∀ q ∈ lawc_140, IOK mr_336 q := WLF 1690 (by decide +kernel) (by decide +kernel)
theorem lawk_141 : ∀ q ∈ lawc_141, IOK mr_336 q := WLF 1698 (by decide +kernel) (by decide +kernel)
theorem lawk_142 : ∀ q ∈ lawc_142, IOK mr_336 q := WLF 1708 (by decide +kernel) (by decide +kernel)
theorem lawk_143 : ∀ q ∈ lawc_143, IOK mr_336 q := WLF 1718 (by decide +kernel) (by decide +kernel)
theorem lawk_144 : ∀ q ∈ lawc_144, IOK mr_336 q := WLF 1730 (by decide +kernel) (by decide +kernel)
theorem lawk_145 : ∀ q ∈ lawc_145, IOK mr_336 q := WLF 1740 (by decide +kernel) (by decide +kernel)
theorem lawk_146 : ∀ q ∈ lawc_146, IOK mr_336 q := WLF 1750 (by decide +kernel) (by decide +kernel)
theorem lawk_147 : ∀ q ∈ lawc_147, IOK mr_336 q := WLF 1760 (by decide +kernel) (by decide +kernel)
theorem lawk_148 : ∀ q ∈ lawc_148, IOK mr_336 q := WLF 1776 (by decide +kernel) (by decide +kernel)
theorem lawk_149 : ∀ q ∈ lawc_149, IOK mr_336 q := WLF 1786 (by decide +kernel) (by decide +kernel)
theorem lawk_150 : ∀ q ∈ lawc_150, IOK mr_336 q := WLF 1796 (by decide +kernel) (by decide +kernel)
theorem lawk_151 : ∀ q ∈ lawc_151, IOK mr_336 q := WLF 1814 (by decide +kernel) (by decide +kernel)
theorem lawk_152 : ∀ q ∈ lawc_152, IOK mr_336 q := WLF 1822 (by decide +kernel) (by decide +kernel)
theorem lawk_153 : ∀ q ∈ lawc_153, IOK mr_336 q := WLF 1830 (by decide +kernel) (by decide +kernel)
theorem lawk_154 : ∀ q ∈ lawc_154, IOK mr_336 q := WLF 1840 (by decide +kernel) (by decide +kernel)
theorem lawk_155 : ∀ q ∈ lawc_155, IOK mr_336 q := WLF 1848 (by decide +kernel) (by decide +kernel)
theorem lawk_156 : ∀ q ∈ lawc_156, IOK mr_336 q := WLF 1860 (by decide +kernel) (by decide +kernel)
theorem lawk_157 : ∀ q ∈ lawc_157, IOK mr_336 q := WLF 1868 (by decide +kernel) (by decide +kernel)
theorem lawk_158 : ∀ q ∈ lawc_158, IOK mr_336 q := WLF 1878 (by decide +kernel) (by decide +kernel)
theorem lawk_159 : ∀ q ∈ lawc_159, IOK mr_336 q := WLF 1888 (by decide +kernel) (by decide +kernel)
theorem lawk_160 : ∀ q ∈ lawc_160, IOK mr_336 q := WLF 1898 (by decide +kernel) (by decide +kernel)
theorem lawk_161 : ∀ q ∈ lawc_161, IOK mr_336 q := WLF 1906 (by decide +kernel) (by decide +kernel)
theorem lawk_162 : ∀ q ∈ lawc_162, IOK mr_336 q := WLF 1916 (by decide +kernel) (by decide +kernel)
theorem lawk_163 : ∀ q ∈ lawc_163, IOK mr_336 q := WLF 1924 (by decide +kernel) (by decide +kernel)
theorem lawk_164 : ∀ q ∈ lawc_164, IOK mr_336 q := WLF 1936 (by decide +kernel) (by decide +kernel)
theorem lawk_165 : ∀ q ∈ lawc_165, IOK mr_336 q := WLF 1944 (by decide +kernel) (by decide +kernel)
theorem lawk_166 : ∀ q ∈ lawc_166, IOK mr_336 q := WLF 1952 (by decide +kernel) (by decide +kernel)
theorem lawk_167 : ∀ q ∈ lawc_167, IOK mr_336 q := WLF 1962 (by decide +kernel) (by decide +kernel)
theorem lawk_168 : ∀ q ∈ lawc_168, IOK mr_336 q := WLF 1970 (by decide +kernel) (by decide +kernel)
theorem lawk_169 : ∀ q ∈ lawc_169, IOK mr_336 q := WLF 1978 (by decide +kernel) (by decide +kernel)
theorem lawk_170 : ∀ q ∈ lawc_170, IOK mr_336 q := WLF 1990 (by decide +kernel) (by decide +kernel)
theorem lawk_171 : ∀ q ∈ lawc_171, IOK mr_336 q := WLF 2000 (by decide +kernel) (by decide +kernel)
theorem lawk_172 : ∀ q ∈ lawc_172, IOK mr_336 q := WLF 2012 (by decide +kernel) (by decide +kernel)
theorem lawk_173 : ∀ q ∈ lawc_173, IOK mr_336 q := WLF 2022 (by decide +kernel) (by decide +kernel)
theorem lawk_174 : ∀ q ∈ lawc_174, IOK mr_336 q := WLF 2034 (by decide +kernel) (by decide +kernel)
theorem lawk_175 : ∀ q ∈ lawc_175, IOK mr_336 q := WLF 2044 (by decide +kernel) (by decide +kernel)
theorem lawk_176 : ∀ q ∈ lawc_176, IOK mr_336 q := WLF 2054 (by decide +kernel) (by decide +kernel)
theorem lawk_177 : ∀ q ∈ lawc_177, IOK mr_336 q := WLF 2064 (by decide +kernel) (by decide +kernel)
theorem lawk_178 : ∀ q ∈ lawc_178, IOK mr_336 q := WLF 2072 (by decide +kernel) (by decide +kernel)
theorem lawk_179 : ∀ q ∈ lawc_179, IOK mr_336 q := WLF 2082 (by decide +kernel) (by decide +kernel)
theorem lawk_180 : ∀ q ∈ lawc_180, IOK mr_336 q := WLF 2090 (by decide +kernel) (by decide +kernel)
theorem lawk_181 : ∀ q ∈ lawc_181, IOK mr_336 q := WLF 2102 (by decide +kernel) (by decide +kernel)
theorem lawk_182 : ∀ q ∈ lawc_182, IOK mr_336 q := WLF 2110 (by decide +kernel) (by decide +kernel)
theorem lawk_183 : ∀ q ∈ lawc_183, IOK mr_336 q := WLF 2119 (by decide +kernel) (by decide +kernel)
theorem lawk_184 : ∀ q ∈ lawc_184, IOK mr_336 q := WLF 2129 (by decide +kernel) (by decide +kernel)
theorem lawk_185 : ∀ q ∈ lawc_185, IOK mr_336 q := WLF 2139 (by decide +kernel) (by decide +kernel)
theorem lawk_186 : ∀ q ∈ lawc_186, IOK mr_336 q := WLF 2147 (by decide +kernel) (by decide +kernel)
theorem lawk_187 : ∀ q ∈ lawc_187, IOK mr_336 q := WLF 2156 (by decide +kernel) (by decide +kernel)
theorem lawk_188 : ∀ q ∈ lawc_188, IOK mr_336 q := WLF 2166 (by decide +kernel) (by decide +kernel)
theorem lawk_189 : ∀ q ∈ lawc_189, IOK mr_336 q := WLF 2178 (by decide +kernel) (by decide +kernel)
theorem lawk_190 : ∀ q ∈ lawc_190, IOK mr_336 q := WLF 2186 (by decide +kernel) (by decide +kernel)
theorem lawk_191 : ∀ q ∈ lawc_191, IOK mr_336 q := WLF 2194 (by decide +kernel) (by decide +kernel)
theorem lawk_192 : ∀ q ∈ lawc_192, IOK mr_336 q := WLF 2204 (by decide +kernel) (by decide +kernel)
theorem lawk_193 : ∀ q ∈ lawc_193, IOK mr_336 q := WLF 2212 (by decide +kernel) (by decide +kernel)
theorem lawk_194 : ∀ q ∈ lawc_194, IOK mr_336 q := WLF 2220 (by decide +kernel) (by decide +kernel)
theorem lawk_195 : ∀ q ∈ lawc_195, IOK mr_336 q := WLF 2228 (by decide +kernel) (by decide +kernel)
theorem lawg_0 : ∀ r ∈ lawt_0, ∀ q ∈ r.2, IOK mr_336 q := List.forall_mem_cons.mpr ⟨lawk_0, List.forall_mem_cons.mpr ⟨lawk_1, List.forall_mem_cons.mpr ⟨lawk_2, List.forall_mem_cons.mpr ⟨lawk_3, List.forall_mem_cons.mpr ⟨lawk_4, List.forall_mem_cons.mpr ⟨lawk_5, List.forall_mem_cons.mpr ⟨lawk_6, List.forall_mem_cons.mpr ⟨lawk_7, List.forall_mem_cons.mpr ⟨lawk_8, List.forall_mem_cons.mpr ⟨lawk_9, fun _ h => absurd h List.not_mem_nil⟩⟩⟩⟩⟩⟩⟩⟩⟩⟩
theorem lawg_1 : ∀ r ∈ lawt_1, ∀ q ∈ r.2, IOK mr_336 q := List.forall_mem_cons.mpr ⟨lawk_10, List.forall_mem_cons.mpr ⟨lawk_11, List.forall_mem_cons.mpr ⟨lawk_12, List.forall_mem_cons.mpr ⟨lawk_13, List.forall_mem_cons.mpr ⟨lawk_14, List.forall_mem_cons.mpr ⟨lawk_15, List.forall_mem_cons.mpr ⟨lawk_16, List.forall_mem_cons.mpr ⟨lawk_17, List.forall_mem_cons.mpr ⟨lawk_18, List.forall_mem_cons.mpr ⟨lawk_19, fun _ h => absurd h List.not_mem_nil⟩⟩⟩⟩⟩⟩⟩⟩⟩⟩
theorem lawg_2 : ∀ r ∈ lawt_2, ∀ q ∈ r.2, IOK mr_336 q := List.forall_mem_cons.mpr ⟨lawk_20, List.forall_mem_cons.mpr ⟨lawk_21, List.forall_mem_cons.mpr ⟨lawk_22, List.forall_mem_cons.mpr ⟨lawk_23, List.forall_mem_cons.mpr ⟨lawk_24, List.forall_mem_cons.mpr ⟨lawk_25, List.forall_mem_cons.mpr ⟨lawk_26, List.forall_mem_cons.mpr ⟨lawk_27, List.forall_mem_cons.mpr ⟨lawk_28, List.forall_mem_cons.mpr ⟨lawk_29, fun _ h => absurd h List.not_mem_nil⟩⟩⟩⟩⟩⟩⟩⟩⟩⟩
theorem lawg_3 : ∀ r ∈ lawt_3, ∀ q ∈ r.2, IOK mr_336 q := List.forall_mem_cons.mpr ⟨lawk_30, List.forall_mem_cons.mpr ⟨lawk_31, List.forall_mem_cons.mpr ⟨lawk_32, List.forall_mem_cons.mpr ⟨lawk_33, List.forall_mem_cons.mpr ⟨lawk_34, List.forall_mem_cons.mpr ⟨lawk_35, List.forall_mem_cons.mpr ⟨lawk_36, List.forall_mem_cons.mpr ⟨lawk_37, List.forall_mem_cons.mpr ⟨lawk_38, List.forall_mem_cons.mpr ⟨lawk_39, fun _ h => absurd h List.not_mem_nil⟩⟩⟩⟩⟩⟩⟩⟩⟩⟩
theorem lawg_4 : ∀ r ∈ lawt_4, ∀ q ∈ r.2, IOK mr_336 q := List.forall_mem_cons.mpr ⟨lawk_40, List.forall_mem_cons.mpr ⟨lawk_41, List.forall_mem_cons.mpr ⟨lawk_42, List.forall_mem_cons.mpr ⟨lawk_43, List.forall_mem_cons.mpr ⟨lawk_44, List.forall_mem_cons.mpr ⟨lawk_45, List.forall_mem_cons.mpr ⟨lawk_46, List.forall_mem_cons.mpr ⟨lawk_47, List.forall_mem_cons.mpr ⟨lawk_48, List.forall_mem_cons.mpr ⟨lawk_49, fun _ h => absurd h List.not_mem_nil⟩⟩⟩⟩⟩⟩⟩⟩⟩⟩
theorem lawg_5 : ∀ r ∈ lawt_5, ∀ q ∈ r.2, IOK mr_336 q := List.forall_mem_cons.mpr ⟨lawk_50, List.forall_mem_cons.mpr ⟨lawk_51, List.forall_mem_cons.mpr ⟨lawk_52, List.forall_mem_cons.mpr ⟨lawk_53, List.forall_mem_cons.mpr ⟨lawk_54, List.forall_mem_cons.mpr ⟨lawk_55, List.forall_mem_cons.mpr ⟨lawk_56, List.forall_mem_cons.mpr ⟨lawk_57, List.forall_mem_cons.mpr ⟨lawk_58, List.forall_mem_cons.mpr ⟨lawk_59, fun _ h => absurd h List.not_mem_nil⟩⟩⟩⟩⟩⟩⟩⟩⟩⟩
theorem lawg_6 : ∀ r ∈ lawt_6, ∀ q ∈ r.2, IOK mr_336 q := List.forall_mem_cons.mpr ⟨lawk_60, List.forall_mem_cons.mpr ⟨lawk_61, List.forall_mem_cons.mpr ⟨lawk_62, List.forall_mem_cons.mpr ⟨lawk_63, List.forall_mem_cons.mpr ⟨lawk_64, List.forall_mem_cons.mpr ⟨lawk_65, List.forall_mem_cons.mpr ⟨lawk_66, List.forall_mem_cons.mpr ⟨lawk_67, List.forall_mem_cons.mpr ⟨lawk_68, List.forall_mem_cons.mpr ⟨lawk_69, fun _ h => absurd h List.not_mem_nil⟩⟩⟩⟩⟩⟩⟩⟩⟩⟩
theorem lawg_7 : ∀ r ∈ lawt_7, ∀ q ∈ r.2, IOK mr_336 q := List.forall_mem_cons.mpr ⟨lawk_70, List.forall_mem_cons.mpr ⟨lawk_71, List.forall_mem_cons.mpr ⟨lawk_72, List.forall_mem_cons.mpr ⟨lawk_73, List.forall_mem_cons.mpr ⟨lawk_74, List.forall_mem_cons.mpr ⟨lawk_75, List.forall_mem_cons.mpr ⟨lawk_76, List.forall_mem_cons.mpr ⟨lawk_77, List.forall_mem_cons.mpr ⟨lawk_78, List.forall_mem_cons.mpr ⟨lawk_79, fun _ h => absurd h List.not_mem_nil⟩⟩⟩⟩⟩⟩⟩⟩⟩⟩
theorem lawg_8 : ∀ r ∈ lawt_8, ∀ q ∈ r.2, IOK mr_336 q := List.forall_mem_cons.mpr ⟨lawk_80, List.forall_mem_cons.mpr ⟨lawk_81, List.forall_mem_cons.mpr ⟨lawk_82, List.forall_mem_cons.mpr ⟨lawk_83, List.forall_mem_cons.mpr ⟨lawk_84, List.forall_mem_cons.mpr ⟨lawk_85, List.forall_mem_cons.mpr ⟨lawk_86, List.forall_mem_cons.mpr ⟨lawk_87, List.forall_mem_cons.mpr ⟨lawk_88, List.forall_mem_cons.mpr ⟨lawk_89, fun _ h => absurd h List.not_mem_nil⟩⟩⟩⟩⟩⟩⟩⟩⟩⟩
theorem lawg_9 : ∀ r ∈ lawt_9, ∀ q ∈ r.2, IOK mr_336 q := List.forall_mem_cons.mpr ⟨lawk_90, List.forall_mem_cons.mpr ⟨lawk_91, List.forall_mem_cons.mpr ⟨lawk_92, List.forall_mem_cons.mpr ⟨lawk_93, List.forall_mem_cons.mpr ⟨lawk_94, List.forall_mem_cons.mpr ⟨lawk_95, List.forall_mem_cons.mpr ⟨lawk_96, List.forall_mem_cons.mpr ⟨lawk_97, List.forall_mem_cons.mpr ⟨lawk_98, List.forall_mem_cons.mpr ⟨lawk_99, fun _ h => absurd h List.not_mem_nil⟩⟩⟩⟩⟩⟩⟩⟩⟩⟩
theorem lawg_10 : ∀ r ∈ lawt_10, ∀ q ∈ r.2, IOK mr_336 q := List.forall_mem_cons.mpr ⟨lawk_100, List.forall_mem_cons.mpr ⟨lawk_101, List.forall_mem_cons.mpr ⟨lawk_102, List.forall_mem_cons.mpr ⟨lawk_103, List.forall_mem_cons.mpr ⟨lawk_104, List.forall_mem_cons.mpr ⟨lawk_105, List.forall_mem_cons.mpr ⟨lawk_106, List.forall_mem_cons.mpr ⟨lawk_107, List.forall_mem_cons.mpr ⟨lawk_108, List.forall_mem_cons.mpr ⟨lawk_109, fun _ h => absurd h List.not_mem_nil⟩⟩⟩⟩⟩⟩⟩⟩⟩⟩
theorem lawg_11 : ∀ r ∈ lawt_11, ∀ q ∈ r.2, IOK mr_336 q := List.forall_mem_cons.mpr ⟨lawk_110, List.forall_mem_cons.mpr ⟨lawk_111, List.forall_mem_cons.mpr ⟨lawk_112, List.forall_mem_cons.mpr ⟨lawk_113, List.forall_mem_cons.mpr ⟨lawk_114, List.forall_mem_cons.mpr ⟨lawk_115, List.forall_mem_cons.mpr ⟨lawk_116, List.forall_mem_cons.mpr ⟨lawk_117, List.forall_mem_cons.mpr ⟨lawk_118, List.forall_mem_cons.mpr ⟨lawk_119, fun _ h => absurd h List.not_mem_nil⟩⟩⟩⟩⟩⟩⟩⟩⟩⟩
theorem lawg_12 : ∀ r ∈ lawt_12, ∀ q ∈ r.2, IOK mr_336 q := List.forall_mem_cons.mpr ⟨lawk_120, List.forall_mem_cons.mpr ⟨lawk_121, List.forall_mem_cons.mpr ⟨lawk_122, List.forall_mem_cons.mpr ⟨lawk_123, List.forall_mem_cons.mpr ⟨lawk_124, List.forall_mem_cons.mpr ⟨lawk_125, List.forall_mem_cons.mpr ⟨lawk_126, List.forall_mem_cons.mpr ⟨lawk_127, List.forall_mem_cons.mpr ⟨lawk_128, List.forall_mem_cons.mpr ⟨lawk_129, fun _ h => absurd h List.not_mem_nil⟩⟩⟩⟩⟩⟩⟩⟩⟩⟩
theorem lawg_13 : ∀ r ∈ lawt_13, ∀ q ∈ r.2, IOK mr_336 q := List.forall_mem_cons.mpr ⟨lawk_130, List.forall_mem_cons.mpr ⟨lawk_131, List.forall_mem_cons.mpr ⟨lawk_132, List.forall_mem_cons.mpr ⟨lawk_133, List.forall_mem_cons.mpr ⟨lawk_134, List.forall_mem_cons.mpr ⟨lawk_135, List.forall_mem_cons.mpr ⟨lawk_136, List.forall_mem_cons.mpr ⟨lawk_137, List.forall_mem_cons.mpr ⟨lawk_138, List.forall_mem_cons.mpr ⟨lawk_139, fun _ h => absurd h List.not_mem_nil⟩⟩⟩⟩⟩⟩⟩⟩⟩⟩
theorem lawg_14 : ∀ r ∈ lawt_14, ∀ q ∈ r.2, IOK mr_336 q := List.forall_mem_cons.mpr ⟨lawk_140, List.forall_mem_cons.mpr ⟨lawk_141, List.forall_mem_cons.mpr ⟨lawk_142, List.forall_mem_cons.mpr ⟨lawk_143, List.forall_mem_cons.mpr ⟨lawk_144, List.forall_mem_cons.mpr ⟨lawk_145, List.forall_mem_cons.mpr ⟨lawk_146, List.forall_mem_cons.mpr ⟨lawk_147, List.forall_mem_cons.mpr ⟨lawk_148, List.forall_mem_cons.mpr ⟨lawk_149, fun _ h => absurd h List.not_mem_nil⟩⟩⟩⟩⟩⟩⟩⟩⟩⟩
theorem lawg_15 : ∀ r ∈ lawt_15, ∀ q ∈ r.2, IOK mr_336 q := List.forall_mem_cons.mpr ⟨lawk_150, List.forall_mem_cons.mpr ⟨lawk_151, List.forall_mem_cons.mpr ⟨lawk_152, List.forall_mem_cons.mpr ⟨lawk_153, List.forall_mem_cons.mpr ⟨lawk_154, List.forall_mem_cons.mpr ⟨lawk_155, List.forall_mem_cons.mpr ⟨lawk_156, List.forall_mem_cons.mpr ⟨lawk_157, List.forall_mem_cons.mpr ⟨lawk_158, List.forall_mem_cons.mpr ⟨lawk_159, fun _ h => absurd h List.not_mem_nil⟩⟩⟩⟩⟩⟩⟩⟩⟩⟩
theorem lawg_16 : ∀ r ∈ lawt_16, ∀ q ∈ r.2, IOK mr_336 q := List.forall_mem_cons.mpr ⟨lawk_160, List.forall_mem_cons.mpr ⟨lawk_161, List.forall_mem_cons.mpr ⟨lawk_162, List.forall_mem_cons.mpr ⟨lawk_163, List.forall_mem_cons.mpr ⟨lawk_164, List.forall_mem_cons.mpr ⟨lawk_165, List.forall_mem_cons.mpr ⟨lawk_166, List.forall_mem_cons.mpr ⟨lawk_167, List.forall_mem_cons.mpr ⟨lawk_168, List.forall_mem_cons.mpr ⟨lawk_169, fun _ h => absurd h List.not_mem_nil⟩⟩⟩⟩⟩⟩⟩⟩⟩⟩
theorem lawg_17 : ∀ r ∈ lawt_17, ∀ q ∈ r.2, IOK mr_336 q := List.forall_mem_cons.mpr ⟨lawk_170, List.forall_mem_cons.mpr ⟨lawk_171, List.forall_mem_cons.mpr ⟨lawk_172, List.forall_mem_cons.mpr ⟨lawk_173, List.forall_mem_cons.mpr ⟨lawk_174, List.forall_mem_cons.mpr ⟨lawk_175, List.forall_mem_cons.mpr ⟨lawk_176, List.forall_mem_cons.mpr ⟨lawk_177, List.forall_mem_cons.mpr ⟨lawk_178, List.forall_mem_cons.mpr ⟨lawk_179, fun _ h => absurd h List.not_mem_nil⟩⟩⟩⟩⟩⟩⟩⟩⟩⟩
theorem lawg_18 : ∀ r ∈ lawt_18, ∀ q ∈ r.2, IOK mr_336 q := List.forall_mem_cons.mpr ⟨lawk_180, List.forall_mem_cons.mpr ⟨lawk_181, List.forall_mem_cons.mpr ⟨lawk_182, List.forall_mem_cons.mpr ⟨lawk_183, List.forall_mem_cons.mpr ⟨lawk_184, List.forall_mem_cons.mpr ⟨lawk_185, List.forall_mem_cons.mpr ⟨lawk_186, List.forall_mem_cons.mpr ⟨lawk_187, List.forall_mem_cons.mpr ⟨lawk_188, List.forall_mem_cons.mpr ⟨lawk_189, fun _ h => absurd h List.not_mem_nil⟩⟩⟩⟩⟩⟩⟩⟩⟩⟩
theorem lawg_19 : ∀ r ∈ lawt_19, ∀ q ∈ r.2, IOK mr_336 q := List.forall_mem_cons.mpr ⟨lawk_190, List.forall_mem_cons.mpr ⟨lawk_191, List.forall_mem_cons.mpr ⟨lawk_192, List.forall_mem_cons.mpr ⟨lawk_193, List.forall_mem_cons.mpr ⟨lawk_194, List.forall_mem_cons.mpr ⟨lawk_195, fun _ h => absurd h List.not_mem_nil⟩⟩⟩⟩⟩⟩
theorem lawk : ∀ q ∈ mcode mr_336, IOK mr_336 q := all_flt3 (t := mtr mr_336) (List.forall_mem_cons.mpr ⟨lawg_0, List.forall_mem_cons.mpr ⟨lawg_1, List.forall_mem_cons.mpr ⟨lawg_2, List.forall_mem_cons.mpr ⟨lawg_3, List.forall_mem_cons.mpr ⟨lawg_4, List.forall_mem_cons.mpr ⟨lawg_5, List.forall_mem_cons.mpr ⟨lawg_6, List.forall_mem_cons.mpr ⟨lawg_7, List.forall_mem_cons.mpr ⟨lawg_8, List.forall_mem_cons.mpr ⟨lawg_9, List.forall_mem_cons.mpr ⟨lawg_10, List.forall_mem_cons.mpr ⟨lawg_11, List.forall_mem_cons.mpr ⟨lawg_12, List.forall_mem_cons.mpr ⟨lawg_13, List.forall_mem_cons.mpr ⟨lawg_14, List.forall_mem_cons.mpr ⟨lawg_15, List.forall_mem_cons.mpr ⟨lawg_16, List.forall_mem_cons.mpr ⟨lawg_17, List.forall_mem_cons.mpr ⟨lawg_18, List.forall_mem_cons.mpr ⟨lawg_19, fun _ h => absurd h List.not_mem_nil⟩⟩⟩⟩⟩⟩⟩⟩⟩⟩⟩⟩⟩⟩⟩⟩⟩⟩⟩⟩)
set_option maxRecDepth 20000 in
theorem ok_law : FOK MT mr_336 := FK_r lawk AL_n (AL_c (CK_4 mt_143 (bi_1_1 MM_7) mfi_143) (AL_c (CK_4 mt_250 (bi_5_11 MM_10) mfi_250) (AL_c (CK_0 mt_122 (bi_2_8 MM_5) mfv_122) (AL_c (CK_0 mt_226 (bi_6_4 MM_6) mfv_226) (AL_c (CK_0 mt_118 (bi_2_8 MM_13) mfv_118) (AL_c (CK_0 mt_221 (bi_6_4 MM_10) mfv_221) (AL_c (CK_0 mt_169 (bi_2_9 MM_1) mfv_169) (AL_c (CK_0 mt_312 (bi_6_5 MM_2) mfv_312) (AL_c (CK_0 mt_121 (bi_3_6 MM_6) mfv_121) (AL_c (CK_0 mt_225 (bi_6_4 MM_14) mfv_225) (AL_c (CK_0 mt_116 (bi_3_6 MM_10) mfv_116) (AL_c (CK_0 mt_219 (bi_6_12 MM_3) mfv_219) (AL_c (CK_0 mt_154 (bi_3_7 MM_2) mfv_154) (AL_c (CK_0 mt_280 (bi_6_13 MM_0) mfv_280) (AL_c (CK_0 mt_120 (bi_3_7 MM_9) mfv_120) (AL_c (CK_0 mt_224 (bi_6_13 MM_4) mfv_224) (AL_c (CK_0 mt_138 (bi_3_7 MM_13) mfv_138) (AL_c (CK_0 mt_245 (bi_6_13 MM_12) mfv_245) (AL_c (CK_0 mt_159 (bi_3_8 MM_11) mfv_159) (AL_c (CK_0 mt_292 (bi_7_0 MM_7) mfv_292) (AL_c (CK_0 mt_112 (bi_3_11 MM_8) mfv_112) (AL_c (CK_0 mt_210 (bi_7_3 MM_14) mfv_210) (AL_c (CK_0 mt_158 (bi_3_11 MM_12) mfv_158) (AL_c (CK_0 mt_291 (bi_7_4 MM_2) mfv_291) (AL_c (CK_0 mt_183 (bi_3_12 MM_0) mfv_183) (AL_c (CK_0 mt_331 (bi_7_4 MM_6) mfv_331) (AL_c (CK_0 mt_166 (bi_3_12 MM_6) mfv_166) (AL_c (CK_0 mt_309 (bi_7_4 MM_10) mfv_309) (AL_c (CK_0 mt_167 (bi_3_12 MM_12) mfv_167) (AL_c (CK_0 mt_310 (bi_7_4 MM_14) mfv_310) (AL_c (CK_0 mt_113 (bi_3_13 MM_4) mfv_113) (AL_c (CK_0 mt_216 (bi_7_5 MM_2) mfv_216) (AL_c (CK_0 mt_176 (bi_3_13 MM_13) mfv_176) (AL_c (CK_0 mt_324 (bi_7_5 MM_10) mfv_324) (AL_c (CK_0 mt_155 (bi_3_14 MM_9) mfv_155) (AL_c (CK_0 mt_282 (bi_7_6 MM_6) mfv_282) (AL_c (CK_0 mt_186 (bi_4_0 MM_6) mfv_186) (AL_c (CK_0 mt_334 (bi_7_7 MM_2) mfv_334) (AL_c (CK_0 mt_107 (bi_4_0 MM_14) mfv_107) (AL_c (CK_0 mt_201 (bi_7_7 MM_6) mfv_201) (AL_c (CK_0 mt_134 (bi_4_1 MM_2) mfv_134) (AL_c (CK_0 mt_240 (bi_7_7 MM_10) mfv_240) (AL_c (CK_0 mt_174 (bi_4_1 MM_6) mfv_174) (AL_c (CK_0 mt_320 (bi_7_7 MM_14) mfv_320) (AL_c (CK_0 mt_181 (bi_4_1 MM_15) mfv_181) (AL_c (CK_0 mt_329 (bi_7_8 MM_2) mfv_329) (AL_c (CK_0 mt_130 (bi_4_2 MM_11) mfv_130) (AL_c (CK_0 mt_235 (bi_7_8 MM_6) mfv_235) (AL_c (CK_0 mt_136 (bi_4_3 MM_3) mfv_136) (AL_c (CK_0 mt_243 (bi_7_8 MM_14) mfv_243) (AL_c (CK_0 mt_141 (bi_4_3 MM_8) mfv_141) (AL_c (CK_0 mt_247 (bi_7_9 MM_2) mfv_247) (AL_c (CK_0 mt_123 (bi_4_3 MM_14) mfv_123) (AL_c (CK_0 mt_227 (bi_7_9 MM_10) mfv_227) (AL_c (CK_0 mt_111 (bi_4_6 MM_2) mfv_111) (AL_c (CK_0 mt_207 (bi_7_10 MM_13) mfv_207) (AL_c (CK_0 mt_170 (bi_4_6 MM_6) mfv_170) (AL_c (CK_0 mt_314 (bi_7_11 MM_1) mfv_314) (AL_c (CK_0 mt_117 (bi_4_6 MM_14) mfv_117) (AL_c (CK_0 mt_220 (bi_7_11 MM_6) mfv_220) (AL_c (CK_0 mt_125 (bi_4_7 MM_2) mfv_125) (AL_c (CK_0 mt_232 (bi_7_11 MM_11) mfv_232) (AL_c (CK_0 mt_179 (bi_4_7 MM_14) mfv_179) (AL_c (CK_0 mt_328 (bi_7_12 MM_3) mfv_328) (AL_c (CK_0 mt_178 (bi_4_8 MM_6) mfv_178) (AL_c (CK_0 mt_326 (bi_7_12 MM_11) mfv_326) (AL_c (CK_0 mt_135 (bi_4_8 MM_7) mfv_135) (AL_c (CK_0 mt_241 (bi_7_12 MM_15) mfv_241) (AL_c (CK_0 mt_152 (bi_4_8 MM_15) mfv_152) (AL_c (CK_0 mt_279 (bi_7_13 MM_11) mfv_279) (AL_c (CK_0 mt_131 (bi_4_9 MM_4) mfv_131) (AL_c (CK_0 mt_236 (bi_7_14 MM_0) mfv_236) (AL_c (CK_0 mt_164 (bi_4_10 MM_0) mfv_164) (AL_c (CK_0 mt_307 (bi_7_14 MM_12) mfv_307) (AL_c (CK_0 mt_163 (bi_4_10 MM_8) mfv_163) (AL_c (CK_0 mt_306 (bi_8_0 MM_4) mfv_306) (AL_c (CK_0 mt_182 (bi_4_10 MM_12) mfv_182) (AL_c (CK_0 mt_330 (bi_8_0 MM_8) mfv_330) (AL_c (CK_0 mt_119 (bi_4_11 MM_0) mfv_119) (AL_c (CK_0 mt_222 (bi_8_0 MM_12) mfv_222) (AL_c (CK_0 mt_150 (bi_4_11 MM_8) mfv_150) (AL_c (CK_0 mt_276 (bi_8_1 MM_4) mfv_276) (AL_c (CK_0 mt_157 (bi_4_12 MM_0) mfv_157) (AL_c (CK_0 mt_287 (bi_8_1 MM_8) mfv_287) (AL_c (CK_0 mt_168 (bi_4_12 MM_4) mfv_168) (AL_c (CK_0 mt_311 (bi_8_1 MM_12) mfv_311) (AL_c (CK_0 mt_101 (bi_4_13 MM_8) mfv_101) (AL_c (CK_0 mt_191 (bi_8_2 MM_15) mfv_191) (AL_c (CK_0 mt_109 (bi_4_13 MM_12) mfv_109) (AL_c (CK_0 mt_205 (bi_8_3 MM_3) mfv_205) (AL_c (CK_0 mt_133 (bi_4_14 MM_1) mfv_133) (AL_c (CK_0 mt_239 (bi_8_3 MM_11) mfv_239) (AL_c (CK_0 mt_140 (bi_5_0 MM_12) mfv_140) (AL_c (CK_0 mt_246 (bi_8_4 MM_7) mfv_246) (AL_c (CK_0 mt_102 (bi_5_1 MM_0) mfv_102) (AL_c (CK_0 mt_193 (bi_8_4 MM_11) mfv_193) (AL_c (CK_0 mt_124 (bi_5_1 MM_4) mfv_124) (AL_c (CK_0 mt_230 (bi_8_4 MM_15) mfv_230) (AL_c (CK_0 mt_173 (bi_5_1 MM_8) mfv_173) (AL_c (CK_0 mt_317 (bi_8_5 MM_7) mfv_317) (AL_c (CK_0 mt_103 (bi_5_2 MM_0) mfv_103) (AL_c (CK_0 mt_196 (bi_8_5 MM_11) mfv_196) (AL_c (CK_0 mt_151 (bi_5_2 MM_15) mfv_151) (AL_c (CK_0 mt_278 (bi_8_6 MM_8) mfv_278) (AL_c (CK_0 mt_137 (bi_5_3 MM_4) mfv_137) (AL_c (CK_0 mt_244 (bi_8_6 MM_12) mfv_244) (AL_c (CK_0 mt_106 (bi_5_5 MM_7) mfv_106) (AL_c (CK_0 mt_200 (bi_8_8 MM_12) mfv_200) (AL_c (CK_0 mt_175 (bi_5_5 MM_11) mfv_175) (AL_c (CK_0 mt_322 (bi_8_9 MM_4) mfv_322) (AL_c (CK_0 mt_177 (bi_5_5 MM_15) mfv_177) (AL_c (CK_0 mt_325 (bi_8_9 MM_8) mfv_325) (AL_c (CK_0 mt_161 (bi_5_6 MM_3) mfv_161) (AL_c (CK_0 mt_296 (bi_8_9 MM_13) mfv_296) (AL_c (CK_0 mt_172 (bi_5_6 MM_7) mfv_172) (AL_c (CK_0 mt_315 (bi_8_10 MM_1) mfv_315) (AL_c (CK_0 mt_187 (bi_5_7 MM_8) mfv_187) (AL_c (CK_0 mt_335 (bi_8_11 MM_2) mfv_335) (AL_c (CK_0 mt_110 (bi_5_7 MM_12) mfv_110) (AL_c (CK_0 mt_206 (bi_8_11 MM_7) mfv_206) (AL_c (CK_0 mt_142 (bi_5_8 MM_4) mfv_142) (AL_c (CK_0 mt_248 (bi_6_3 MM_10) mfv_248) (AL_c (CK_0 mt_105 (bi_5_9 MM_8) mfv_105) (AL_c (CK_0 mt_199 (bi_6_4 MM_2) mfv_199) (AL_c (CK_0 mt_165 (bi_5_9 MM_12) mfv_165) (AL_c (CK_0 mt_308 (bi_8_11 MM_11) mfv_308) (AL_c (CK_0 mt_185 (bi_5_10 MM_7) mfv_185) (AL_c (CK_0 mt_333 (bi_8_11 MM_15) mfv_333) (AL_c (CK_0 mt_162 (bi_5_10 MM_15) mfv_162) (AL_c (CK_0 mt_297 (bi_8_12 MM_6) mfv_297) AL_n))))))))))))))))))))))))))))))))))))))))))))))))))))))))))))))))))))))))))))))))))))))))))))))))))))))))))))))))))))))))))))))))) : ∀ q ∈ ([(9, 4, 143, 1, 23), (12, 4, 250, 5, 186), (13, 0, 122, 2, 133), (17, 0, 226, 6, 70), (18, 0, 118, 2, 141), (22, 0, 221, 6, 74), (23, 0, 169, 2, 145), (27, 0, 312, 6, 82), (28, 0, 121, 3, 102), (31, 0, 225, 6, 78), (32, 0, 116, 3, 106), (36, 0, 219, 6, 195), (37, 0, 154, 3, 114), (41, 0, 280, 6, 208), (42, 0, 120, 3, 121), (45, 0, 224, 6, 212), (46, 0, 138, 3, 125), (49, 0, 245, 6, 220), (50, 0, 159, 3, 139), (53, 0, 292, 7, 7), (54, 0, 112, 3, 184), (57, 0, 210, 7, 62), (58, 0, 158, 3, 188), (61, 0, 291, 7, 66), (62, 0, 183, 3, 192), (65, 0, 331, 7, 70), (66, 0, 166, 3, 198), (69, 0, 309, 7, 74), (70, 0, 167, 3, 204), (73, 0, 310, 7, 78), (74, 0, 113, 3, 212), (77, 0, 216, 7, 82), (78, 0, 176, 3, 221), (81, 0, 324, 7, 90), (82, 0, 155, 3, 233), (85, 0, 282, 7, 102), (86, 0, 186, 4, 6), (89, 0, 334, 7, 114), (90, 0, 107, 4, 14), (93, 0, 201, 7, 118), (94, 0, 134, 4, 18), (97, 0, 240, 7, 122), (98, 0, 174, 4, 22), (101, 0, 320, 7, 126), (102, 0, 181, 4, 31), (105, 0, 329, 7, 130), (106, 0, 130, 4, 43), (109, 0, 235, 7, 134), (110, 0, 136, 4, 51), (113, 0, 243, 7, 142), (114, 0, 141, 4, 56), (117, 0, 247, 7, 146), (118, 0, 123, 4, 62), (121, 0, 227, 7, 154), (122, 0, 111, 4, 98), (125, 0, 207, 7, 173), (126, 0, 170, 4, 102), (129, 0, 314, 7, 177), (130, 0, 117, 4, 110), (133, 0, 220, 7, 182), (134, 0, 125, 4, 114), (137, 0, 232, 7, 187), (138, 0, 179, 4, 126), (141, 0, 328, 7, 195), (142, 0, 178, 4, 134), (145, 0, 326, 7, 203), (146, 0, 135, 4, 135), (149, 0, 241, 7, 207), (150, 0, 152, 4, 143), (153, 0, 279, 7, 219), (154, 0, 131, 4, 148), (157, 0, 236, 7, 224), (158, 0, 164, 4, 160), (161, 0, 307, 7, 236), (162, 0, 163, 4, 168), (165, 0, 306, 8, 4), (166, 0, 182, 4, 172), (169, 0, 330, 8, 8), (170, 0, 119, 4, 176), (173, 0, 222, 8, 12), (174, 0, 150, 4, 184), (177, 0, 276, 8, 20), (178, 0, 157, 4, 192), (181, 0, 287, 8, 24), (182, 0, 168, 4, 196), (185, 0, 311, 8, 28), (186, 0, 101, 4, 216), (189, 0, 191, 8, 47), (190, 0, 109, 4, 220), (193, 0, 205, 8, 51), (194, 0, 133, 4, 225), (197, 0, 239, 8, 59), (198, 0, 140, 5, 12), (201, 0, 246, 8, 71), (202, 0, 102, 5, 16), (205, 0, 193, 8, 75), (206, 0, 124, 5, 20), (209, 0, 230, 8, 79), (210, 0, 173, 5, 24), (213, 0, 317, 8, 87), (214, 0, 103, 5, 32), (217, 0, 196, 8, 91), (218, 0, 151, 5, 47), (221, 0, 278, 8, 104), (222, 0, 137, 5, 52), (225, 0, 244, 8, 108), (226, 0, 106, 5, 87), (229, 0, 200, 8, 140), (230, 0, 175, 5, 91), (233, 0, 322, 8, 148), (234, 0, 177, 5, 95), (237, 0, 325, 8, 152), (238, 0, 161, 5, 99), (241, 0, 296, 8, 157), (242, 0, 172, 5, 103), (245, 0, 315, 8, 161), (246, 0, 187, 5, 120), (250, 0, 335, 8, 178), (251, 0, 110, 5, 124), (254, 0, 206, 8, 183), (255, 0, 142, 5, 132), (258, 0, 248, 6, 58), (259, 0, 105, 5, 152), (262, 0, 199, 6, 66), (263, 0, 165, 5, 156), (266, 0, 308, 8, 187), (269, 0, 185, 5, 167), (273, 0, 333, 8, 191), (274, 0, 162, 5, 175), (277, 0, 297, 8, 198)] : List AK), CKok MT mr_336 q) AL_n (AL_c (W_r (bi_8_12 MM_10) rfl) AL_n : ∀ q ∈ ([(267, 4294967295, 8, 202)] : List AKl), Cond.constantLong (my mr_336).cls q.1 q.2.1 ∈ TBL) (AL_c (KC_r rfl (bi_1_1 MM_5)) (AL_c (KC_r rfl (bi_5_11 MM_8)) AL_n) : ∀ q ∈ ([(7, 10, 1, 21), (10, 11, 5, 184)] : List AKc), KCok mr_336 q) AL_n
theorem MT_c0 : ∀ G ∈ [mr_0, mr_1, mr_2, mr_3, mr_4, mr_5, mr_6, mr_7, mr_8, mr_9, mr_10, mr_11, mr_12, mr_13, mr_14, mr_15, mr_16, mr_17, mr_18, mr_19, mr_20, mr_21, mr_22, mr_23, mr_24, mr_25, mr_26, mr_27, mr_28, mr_29], FOK MT G ∧ GOK G := List.forall_mem_cons.mpr ⟨⟨ok_0, gk_0⟩, List.forall_mem_cons.mpr ⟨⟨ok_1, gk_1⟩, List.forall_mem_cons.mpr ⟨⟨ok_2, gk_2⟩, List.forall_mem_cons.mpr ⟨⟨ok_3, gk_3⟩, List.forall_mem_cons.mpr ⟨⟨ok_4, gk_4⟩, List.forall_mem_cons.mpr ⟨⟨ok_5, gk_5⟩, List.forall_mem_cons.mpr ⟨⟨ok_6, gk_6⟩, List.forall_mem_cons.mpr ⟨⟨ok_7, gk_7⟩, List.forall_mem_cons.mpr ⟨⟨ok_8, gk_8⟩, List.forall_mem_cons.mpr ⟨⟨ok_9, gk_9⟩, List.forall_mem_cons.mpr ⟨⟨ok_10, gk_10⟩, List.forall_mem_cons.mpr ⟨⟨ok_11, gk_11⟩, List.forall_mem_cons.mpr ⟨⟨ok_12, gk_12⟩, List.forall_mem_cons.mpr ⟨⟨ok_13, gk_13⟩, List.forall_mem_cons.mpr ⟨⟨ok_14, gk_14⟩, List.forall_mem_cons.mpr ⟨⟨ok_15, gk_15⟩, List.forall_mem_cons.mpr ⟨⟨ok_16, gk_16⟩, List.forall_mem_cons.mpr ⟨⟨ok_17, gk_17⟩, List.forall_mem_cons.mpr ⟨⟨ok_18, gk_18⟩, List.forall_mem_cons.mpr ⟨⟨ok_19, gk_19⟩, List.forall_mem_cons.mpr ⟨⟨ok_20, gk_20⟩, List.forall_mem_cons.mpr ⟨⟨ok_21, gk_21⟩, List.forall_mem_cons.mpr ⟨⟨ok_22, gk_22⟩, List.forall_mem_cons.mpr ⟨⟨ok_23, gk_23⟩, List.forall_mem_cons.mpr ⟨⟨ok_24, gk_24⟩, List.forall_mem_cons.mpr ⟨⟨ok_25, gk_25⟩, List.forall_mem_cons.mpr ⟨⟨ok_26, gk_26⟩, List.forall_mem_cons.mpr ⟨⟨ok_27, gk_27⟩, List.forall_mem_cons.mpr ⟨⟨ok_28, gk_28⟩, List.forall_mem_cons.mpr ⟨⟨ok_29, gk_29⟩, fun _ h => absurd h List.not_mem_nil⟩⟩⟩⟩⟩⟩⟩⟩⟩⟩⟩⟩⟩⟩⟩⟩⟩⟩⟩⟩⟩⟩⟩⟩⟩⟩⟩⟩⟩⟩
theorem MT_c1 : ∀ G ∈ [mr_30, mr_31, mr_32, mr_33, mr_34, mr_35, mr_36, mr_37, mr_38, mr_39, mr_40, mr_41, mr_42, mr_43, mr_44, mr_45, mr_46, mr_47, mr_48, mr_49, mr_50, mr_51, mr_52, mr_53, mr_54, mr_55, mr_56, mr_57, mr_58, mr_59], FOK MT G ∧ GOK G := List.forall_mem_cons.mpr ⟨⟨ok_30, gk_30⟩, List.forall_mem_cons.mpr ⟨⟨ok_31, gk_31⟩, List.forall_mem_cons.mpr ⟨⟨ok_32, gk_32⟩, List.forall_mem_cons.mpr ⟨⟨ok_33, gk_33⟩, List.forall_mem_cons.mpr ⟨⟨ok_34, gk_34⟩, List.forall_mem_cons.mpr ⟨⟨ok_35, gk_35⟩, List.forall_mem_cons.mpr ⟨⟨ok_36, gk_36⟩, List.forall_mem_cons.mpr ⟨⟨ok_37, gk_37⟩, List.forall_mem_cons.mpr ⟨⟨ok_38, gk_38⟩, List.forall_mem_cons.mpr ⟨⟨ok_39, gk_39⟩, List.forall_mem_cons.mpr ⟨⟨ok_40, gk_40⟩, List.forall_mem_cons.mpr ⟨⟨ok_41, gk_41⟩, List.forall_mem_cons.mpr ⟨⟨ok_42, gk_42⟩, List.forall_mem_cons.mpr ⟨⟨ok_43, gk_43⟩, List.forall_mem_cons.mpr ⟨⟨ok_44, gk_44⟩, List.forall_mem_cons.mpr ⟨⟨ok_45, gk_45⟩, List.forall_mem_cons.mpr ⟨⟨ok_46, gk_46⟩, List.forall_mem_cons.mpr ⟨⟨ok_47, gk_47⟩, List.forall_mem_cons.mpr ⟨⟨ok_48, gk_48⟩, List.forall_mem_cons.mpr ⟨⟨ok_49, gk_49⟩, List.forall_mem_cons.mpr ⟨⟨ok_50, gk_50⟩, List.forall_mem_cons.mpr ⟨⟨ok_51, gk_51⟩, List.forall_mem_cons.mpr ⟨⟨ok_52, gk_52⟩, List.forall_mem_cons.mpr ⟨⟨ok_53, gk_53⟩, List.forall_mem_cons.mpr ⟨⟨ok_54, gk_54⟩, List.forall_mem_cons.mpr ⟨⟨ok_55, gk_55⟩, List.forall_mem_cons.mpr ⟨⟨ok_56, gk_56⟩, List.forall_mem_cons.mpr ⟨⟨ok_57, gk_57⟩, List.forall_mem_cons.mpr ⟨⟨ok_58, gk_58⟩, List.forall_mem_cons.mpr ⟨⟨ok_59, gk_59⟩, fun _ h => absurd h List.not_mem_nil⟩⟩⟩⟩⟩⟩⟩⟩⟩⟩⟩⟩⟩⟩⟩⟩⟩⟩⟩⟩⟩⟩⟩⟩⟩⟩⟩⟩⟩⟩
theorem MT_c2 : ∀ G ∈ [mr_60, mr_61, mr_62, mr_63, mr_64, mr_65, mr_66, mr_67, mr_68, mr_69, mr_70, mr_71, mr_72, mr_73, mr_74, mr_75, mr_76, mr_77, mr_78, mr_79, mr_80, mr_81, mr_82, mr_83, mr_84, mr_85, mr_86, mr_87, mr_88, mr_89], FOK MT G ∧ GOK G := List.forall_mem_cons.mpr ⟨⟨ok_60, gk_60⟩, List.forall_mem_cons.mpr ⟨⟨ok_61, gk_61⟩, List.forall_mem_cons.mpr ⟨⟨ok_62, gk_62⟩, List.forall_mem_cons.mpr ⟨⟨ok_63, gk_63⟩, List.forall_mem_cons.mpr ⟨⟨ok_64, gk_64⟩, List.forall_mem_cons.mpr ⟨⟨ok_65, gk_65⟩, List.forall_mem_cons.mpr ⟨⟨ok_66, gk_66⟩, List.forall_mem_cons.mpr ⟨⟨ok_67, gk_67⟩, List.forall_mem_cons.mpr ⟨⟨ok_68, gk_68⟩, List.forall_mem_cons.mpr ⟨⟨ok_69, gk_69⟩, List.forall_mem_cons.mpr ⟨⟨ok_70, gk_70⟩, List.forall_mem_cons.mpr ⟨⟨ok_71, gk_71⟩, List.forall_mem_cons.mpr ⟨⟨ok_72, gk_72⟩, List.forall_mem_cons.mpr ⟨⟨ok_73, gk_73⟩, List.forall_mem_cons.mpr ⟨⟨ok_74, gk_74⟩, List.forall_mem_cons.mpr ⟨⟨ok_75, gk_75⟩, List.forall_mem_cons.mpr ⟨⟨ok_76, gk_76⟩, List.forall_mem_cons.mpr ⟨⟨ok_77, gk_77⟩, List.forall_mem_cons.mpr ⟨⟨ok_78, gk_78⟩, List.forall_mem_cons.mpr ⟨⟨ok_79, gk_79⟩, List.forall_mem_cons.mpr ⟨⟨ok_80, gk_80⟩, List.forall_mem_cons.mpr ⟨⟨ok_81, gk_81⟩, List.forall_mem_cons.mpr ⟨⟨ok_82, gk_82⟩, List.forall_mem_cons.mpr ⟨⟨ok_83, gk_83⟩, List.forall_mem_cons.mpr ⟨⟨ok_84, gk_84⟩, List.forall_mem_cons.mpr ⟨⟨ok_85, gk_85⟩, List.forall_mem_cons.mpr ⟨⟨ok_86, gk_86⟩, List.forall_mem_cons.mpr ⟨⟨ok_87, gk_87⟩, List.forall_mem_cons.mpr ⟨⟨ok_88, gk_88⟩, List.forall_mem_cons.mpr ⟨⟨ok_89, gk_89⟩, fun _ h => absurd h List.not_mem_nil⟩⟩⟩⟩⟩⟩⟩⟩⟩⟩⟩⟩⟩⟩⟩⟩⟩⟩⟩⟩⟩⟩⟩⟩⟩⟩⟩⟩⟩⟩
theorem MT_c3 : ∀ G ∈ [mr_90, mr_91, mr_92, mr_93, mr_94, mr_95, mr_96, mr_97, mr_98, mr_99, mr_100, mr_101, mr_102, mr_103, mr_104, mr_105, mr_106, mr_107, mr_108, mr_109, mr_110, mr_111, mr_112, mr_113, mr_114, mr_115, mr_116, mr_117, mr_118, mr_119], FOK MT G ∧ GOK G := List.forall_mem_cons.mpr ⟨⟨ok_90, gk_90⟩, List.forall_mem_cons.mpr ⟨⟨ok_91, gk_91⟩, List.forall_mem_cons.mpr ⟨⟨ok_92, gk_92⟩, List.forall_mem_cons.mpr ⟨⟨ok_93, gk_93⟩, List.forall_mem_cons.mpr ⟨⟨ok_94, gk_94⟩, List.forall_mem_cons.mpr ⟨⟨ok_95, gk_95⟩, List.forall_mem_cons.mpr ⟨⟨ok_96, gk_96⟩, List.forall_mem_cons.mpr ⟨⟨ok_97, gk_97⟩, List.forall_mem_cons.mpr ⟨⟨ok_98, gk_98⟩, List.forall_mem_cons.mpr ⟨⟨ok_99, gk_99⟩, List.forall_mem_cons.mpr ⟨⟨ok_100, gk_100⟩, List.forall_mem_cons.mpr ⟨⟨ok_101, gk_101⟩, List.forall_mem_cons.mpr ⟨⟨ok_102, gk_102⟩, List.forall_mem_cons.mpr ⟨⟨ok_103, gk_103⟩, List.forall_mem_cons.mpr ⟨⟨ok_104, gk_104⟩, List.forall_mem_cons.mpr ⟨⟨ok_105, gk_105⟩, List.forall_mem_cons.mpr ⟨⟨ok_106, gk_106⟩, List.forall_mem_cons.mpr ⟨⟨ok_107, gk_107⟩, List.forall_mem_cons.mpr ⟨⟨ok_108, gk_108⟩, List.forall_mem_cons.mpr ⟨⟨ok_109, gk_109⟩, List.forall_mem_cons.mpr ⟨⟨ok_110, gk_110⟩, List.forall_mem_cons.mpr ⟨⟨ok_111, gk_111⟩, List.forall_mem_cons.mpr ⟨⟨ok_112, gk_112⟩, List.forall_mem_cons.mpr ⟨⟨ok_113, gk_113⟩, List.forall_mem_cons.mpr ⟨⟨ok_114, gk_114⟩, List.forall_mem_cons.mpr ⟨⟨ok_115, gk_115⟩, List.forall_mem_cons.mpr ⟨⟨ok_116, gk_116⟩, List.forall_mem_cons.mpr ⟨⟨ok_117, gk_117⟩, List.forall_mem_cons.mpr ⟨⟨ok_118, gk_118⟩, List.forall_mem_cons.mpr ⟨⟨ok_119, gk_119⟩, fun _ h => absurd h List.not_mem_nil⟩⟩⟩⟩⟩⟩⟩⟩⟩⟩⟩⟩⟩⟩⟩⟩⟩⟩⟩⟩⟩⟩⟩⟩⟩⟩⟩⟩⟩⟩
theorem MT_c4 : ∀ G ∈ [mr_120, mr_121, mr_122, mr_123, mr_124, mr_125, mr_126, mr_127, mr_128, mr_129, mr_130, mr_131, mr_132, mr_133, mr_134, mr_135, mr_136, mr_137, mr_138, mr_139, mr_140, mr_141, mr_142, mr_143, mr_144, mr_145, mr_146, mr_147, mr_148, mr_149], FOK MT G ∧ GOK G := List.forall_mem_cons.mpr ⟨⟨ok_120, gk_120⟩, List.forall_mem_cons.mpr ⟨⟨ok_121, gk_121⟩, List.forall_mem_cons.mpr ⟨⟨ok_122, gk_122⟩, List.forall_mem_cons.mpr ⟨⟨ok_123, gk_123⟩, List.forall_mem_cons.mpr ⟨⟨ok_124, gk_124⟩, List.forall_mem_cons.mpr ⟨⟨ok_125, gk_125⟩, List.forall_mem_cons.mpr ⟨⟨ok_126, gk_126⟩, List.forall_mem_cons.mpr ⟨⟨ok_127, gk_127⟩, List.forall_mem_cons.mpr ⟨⟨ok_128, gk_128⟩, List.forall_mem_cons.mpr ⟨⟨ok_129, gk_129⟩, List.forall_mem_cons.mpr ⟨⟨ok_130, gk_130⟩, List.forall_mem_cons.mpr ⟨⟨ok_131, gk_131⟩, List.forall_mem_cons.mpr ⟨⟨ok_132, gk_132⟩, List.forall_mem_cons.mpr ⟨⟨ok_133, gk_133⟩, List.forall_mem_cons.mpr ⟨⟨ok_134, gk_134⟩, List.forall_mem_cons.mpr ⟨⟨ok_135, gk_135⟩, List.forall_mem_cons.mpr ⟨⟨ok_136, gk_136⟩, List.forall_mem_cons.mpr ⟨⟨ok_137, gk_137⟩, List.forall_mem_cons.mpr ⟨⟨ok_138, gk_138⟩, List.forall_mem_cons.mpr ⟨⟨ok_139, gk_139⟩, List.forall_mem_cons.mpr ⟨⟨ok_140, gk_140⟩, List.forall_mem_cons.mpr ⟨⟨ok_141, gk_141⟩, List.forall_mem_cons.mpr ⟨⟨ok_142, gk_142⟩, List.forall_mem_cons.mpr ⟨⟨ok_143, gk_143⟩, List.forall_mem_cons.mpr ⟨⟨ok_144, gk_144⟩, List.forall_mem_cons.mpr ⟨⟨ok_145, gk_145⟩, List.forall_mem_cons.mpr ⟨⟨ok_146, gk_146⟩, List.forall_mem_cons.mpr ⟨⟨ok_147, gk_147⟩, List.forall_mem_cons.mpr ⟨⟨ok_148, gk_148⟩, List.forall_mem_cons.mpr ⟨⟨ok_149, gk_149⟩, fun _ h => absurd h List.not_mem_nil⟩⟩⟩⟩⟩⟩⟩⟩⟩⟩⟩⟩⟩⟩⟩⟩⟩⟩⟩⟩⟩⟩⟩⟩⟩⟩⟩⟩⟩⟩
theorem MT_c5 : ∀ G ∈ [mr_150, mr_151, mr_152, mr_153, mr_154, mr_155, mr_156, mr_157, mr_158, mr_159, mr_160, mr_161, mr_162, mr_163, mr_164, mr_165, mr_166, mr_167, mr_168, mr_169, mr_170, mr_171, mr_172, mr_173, mr_174, mr_175, mr_176, mr_177, mr_178, mr_179], FOK MT G ∧ GOK G := List.forall_mem_cons.mpr ⟨⟨ok_150, gk_150⟩, List.forall_mem_cons.mpr ⟨⟨ok_151, gk_151⟩, List.forall_mem_cons.mpr ⟨⟨ok_152, gk_152⟩, List.forall_mem_cons.mpr ⟨⟨ok_153, gk_153⟩, List.forall_mem_cons.mpr ⟨⟨ok_154, gk_154⟩, List.forall_mem_cons.mpr ⟨⟨ok_155, gk_155⟩, List.forall_mem_cons.mpr ⟨⟨ok_156, gk_156⟩, List.forall_mem_cons.mpr ⟨⟨ok_157, gk_157⟩, List.forall_mem_cons.mpr ⟨⟨ok_158, gk_158⟩, List.forall_mem_cons.mpr ⟨⟨ok_159, gk_159⟩, List.forall_mem_cons.mpr ⟨⟨ok_160, gk_160⟩, List.forall_mem_cons.mpr ⟨⟨ok_161, gk_161⟩, List.forall_mem_cons.mpr ⟨⟨ok_162, gk_162⟩, List.forall_mem_cons.mpr ⟨⟨ok_163, gk_163⟩, List.forall_mem_cons.mpr ⟨⟨ok_164, gk_164⟩, List.forall_mem_cons.mpr ⟨⟨ok_165, gk_165⟩, List.forall_mem_cons.mpr ⟨⟨ok_166, gk_166⟩, List.forall_mem_cons.mpr ⟨⟨ok_167, gk_167⟩, List.forall_mem_cons.mpr ⟨⟨ok_168, gk_168⟩, List.forall_mem_cons.mpr ⟨⟨ok_169, gk_169⟩, List.forall_mem_cons.mpr ⟨⟨ok_170, gk_170⟩, List.forall_mem_cons.mpr ⟨⟨ok_171, gk_171⟩, List.forall_mem_cons.mpr ⟨⟨ok_172, gk_172⟩, List.forall_mem_cons.mpr ⟨⟨ok_173, gk_173⟩, List.forall_mem_cons.mpr ⟨⟨ok_174, gk_174⟩, List.forall_mem_cons.mpr ⟨⟨ok_175, gk_175⟩, List.forall_mem_cons.mpr ⟨⟨ok_176, gk_176⟩, List.forall_mem_cons.mpr ⟨⟨ok_177, gk_177⟩, List.forall_mem_cons.mpr ⟨⟨ok_178, gk_178⟩, List.forall_mem_cons.mpr ⟨⟨ok_179, gk_179⟩, fun _ h => absurd h List.not_mem_nil⟩⟩⟩⟩⟩⟩⟩⟩⟩⟩⟩⟩⟩⟩⟩⟩⟩⟩⟩⟩⟩⟩⟩⟩⟩⟩⟩⟩⟩⟩
theorem MT_c6 : ∀ G ∈ [mr_180, mr_181, mr_182, mr_183, mr_184, mr_185, mr_186, mr_187, mr_188, mr_189, mr_190, mr_191, mr_192, mr_193, mr_194, mr_195, mr_196, mr_197, mr_198, mr_199, mr_200, mr_201, mr_202, mr_203, mr_204, mr_205, mr_206, mr_207, mr_208, mr_209], FOK MT G ∧ GOK G := List.forall_mem_cons.mpr ⟨⟨ok_180, gk_180⟩, List.forall_mem_cons.mpr ⟨⟨ok_181, gk_181⟩, List.forall_mem_cons.mpr ⟨⟨ok_182, gk_182⟩, List.forall_mem_cons.mpr ⟨⟨ok_183, gk_183⟩, List.forall_mem_cons.mpr ⟨⟨ok_184, gk_184⟩, List.forall_mem_cons.mpr ⟨⟨ok_185, gk_185⟩, List.forall_mem_cons.mpr ⟨⟨ok_186, gk_186⟩, List.forall_mem_cons.mpr ⟨⟨ok_187, gk_187⟩, List.forall_mem_cons.mpr ⟨⟨ok_188, gk_188⟩, List.forall_mem_cons.mpr ⟨⟨ok_189, gk_189⟩, List.forall_mem_cons.mpr ⟨⟨ok_190, gk_190⟩, List.forall_mem_cons.mpr ⟨⟨ok_191, gk_191⟩, List.forall_mem_cons.mpr ⟨⟨ok_192, gk_192⟩, List.forall_mem_cons.mpr ⟨⟨ok_193, gk_193⟩, List.forall_mem_cons.mpr ⟨⟨ok_194, gk_194⟩, List.forall_mem_cons.mpr ⟨⟨ok_195, gk_195⟩, List.forall_mem_cons.mpr ⟨⟨ok_196, gk_196⟩, List.forall_mem_cons.mpr ⟨⟨ok_197, gk_197⟩, List.forall_mem_cons.mpr ⟨⟨ok_198, gk_198⟩, List.forall_mem_cons.mpr ⟨⟨ok_199, gk_199⟩, List.forall_mem_cons.mpr ⟨⟨ok_200, gk_200⟩, List.forall_mem_cons.mpr ⟨⟨ok_201, gk_201⟩, List.forall_mem_cons.mpr ⟨⟨ok_202, gk_202⟩, List.forall_mem_cons.mpr ⟨⟨ok_203, gk_203⟩, List.forall_mem_cons.mpr ⟨⟨ok_204, gk_204⟩, List.forall_mem_cons.mpr ⟨⟨ok_205, gk_205⟩, List.forall_mem_cons.mpr ⟨⟨ok_206, gk_206⟩, List.forall_mem_cons.mpr ⟨⟨ok_207, gk_207⟩, List.forall_mem_cons.mpr ⟨⟨ok_208, gk_208⟩, List.forall_mem_cons.mpr ⟨⟨ok_209, gk_209⟩, fun _ h => absurd h List.not_mem_nil⟩⟩⟩⟩⟩⟩⟩⟩⟩⟩⟩⟩⟩⟩⟩⟩⟩⟩⟩⟩⟩⟩⟩⟩⟩⟩⟩⟩⟩⟩
theorem MT_c7 : ∀ G ∈ [mr_210, mr_211, mr_212, mr_213, mr_214, mr_215, mr_216, mr_217, mr_218, mr_219, mr_220, mr_221, mr_222, mr_223, mr_224, mr_225, mr_226, mr_227, mr_228, mr_229, mr_230, mr_231, mr_232, mr_233, mr_234, mr_235, mr_236, mr_237, mr_238, mr_239], FOK MT G ∧ GOK G := List.forall_mem_cons.mpr ⟨⟨ok_210, gk_210⟩, List.forall_mem_cons.mpr ⟨⟨ok_211, gk_211⟩, List.forall_mem_cons.mpr ⟨⟨ok_212, gk_212⟩, List.forall_mem_cons.mpr ⟨⟨ok_213, gk_213⟩, List.forall_mem_cons.mpr ⟨⟨ok_214, gk_214⟩, List.forall_mem_cons.mpr ⟨⟨ok_215, gk_215⟩, List.forall_mem_cons.mpr ⟨⟨ok_216, gk_216⟩, List.forall_mem_cons.mpr ⟨⟨ok_217, gk_217⟩, List.forall_mem_cons.mpr ⟨⟨ok_218, gk_218⟩, List.forall_mem_cons.mpr ⟨⟨ok_219, gk_219⟩, List.forall_mem_cons.mpr ⟨⟨ok_220, gk_220⟩, List.forall_mem_cons.mpr ⟨⟨ok_221, gk_221⟩, List.forall_mem_cons.mpr ⟨⟨ok_222, gk_222⟩, List.forall_mem_cons.mpr ⟨⟨ok_223, gk_223⟩, List.forall_mem_cons.mpr ⟨⟨ok_224, gk_224⟩, List.forall_mem_cons.mpr ⟨⟨ok_225, gk_225⟩, List.forall_mem_cons.mpr ⟨⟨ok_226, gk_226⟩, List.forall_mem_cons.mpr ⟨⟨ok_227, gk_227⟩, List.forall_mem_cons.mpr ⟨⟨ok_228, gk_228⟩, List.forall_mem_cons.mpr ⟨⟨ok_229, gk_229⟩, List.forall_mem_cons.mpr ⟨⟨ok_230, gk_230⟩, List.forall_mem_cons.mpr ⟨⟨ok_231, gk_231⟩, List.forall_mem_cons.mpr ⟨⟨ok_232, gk_232⟩, List.forall_mem_cons.mpr ⟨⟨ok_233, gk_233⟩, List.forall_mem_cons.mpr ⟨⟨ok_234, gk_234⟩, List.forall_mem_cons.mpr ⟨⟨ok_235, gk_235⟩, List.forall_mem_cons.mpr ⟨⟨ok_236, gk_236⟩, List.forall_mem_cons.mpr ⟨⟨ok_237, gk_237⟩, List.forall_mem_cons.mpr ⟨⟨ok_238, gk_238⟩, List.forall_mem_cons.mpr ⟨⟨ok_239, gk_239⟩, fun _ h => absurd h List.not_mem_nil⟩⟩⟩⟩⟩⟩⟩⟩⟩⟩⟩⟩⟩⟩⟩⟩⟩⟩⟩⟩⟩⟩⟩⟩⟩⟩⟩⟩⟩⟩
theorem MT_c8 : ∀ G ∈ [mr_240, mr_241, mr_242, mr_243, mr_244, mr_245, mr_246, mr_247, mr_248, mr_249, mr_250, mr_251, mr_252, mr_253, mr_254, mr_255, mr_256, mr_257, mr_258, mr_259, mr_260, mr_261, mr_262, mr_263, mr_264, mr_265, mr_266, mr_267, mr_268, mr_269], FOK MT G ∧ GOK G := List.forall_mem_cons.mpr ⟨⟨ok_240, gk_240⟩, List.forall_mem_cons.mpr ⟨⟨ok_241, gk_241⟩, List.forall_mem_cons.mpr ⟨⟨ok_242, gk_242⟩, List.forall_mem_cons.mpr ⟨⟨ok_243, gk_243⟩, List.forall_mem_cons.mpr ⟨⟨ok_244, gk_244⟩, List.forall_mem_cons.mpr ⟨⟨ok_245, gk_245⟩, List.forall_mem_cons.mpr ⟨⟨ok_246, gk_246⟩, List.forall_mem_cons.mpr ⟨⟨ok_247, gk_247⟩, List.forall_mem_cons.mpr ⟨⟨ok_248, gk_248⟩, List.forall_mem_cons.mpr ⟨⟨ok_249, gk_249⟩, List.forall_mem_cons.mpr ⟨⟨ok_250, gk_250⟩, List.forall_mem_cons.mpr ⟨⟨ok_251, gk_251⟩, List.forall_mem_cons.mpr ⟨⟨ok_252, gk_252⟩, List.forall_mem_cons.mpr ⟨⟨ok_253, gk_253⟩, List.forall_mem_cons.mpr ⟨⟨ok_254, gk_254⟩, List.forall_mem_cons.mpr ⟨⟨ok_255, gk_255⟩, List.forall_mem_cons.mpr ⟨⟨ok_256, gk_256⟩, List.forall_mem_cons.mpr ⟨⟨ok_257, gk_257⟩, List.forall_mem_cons.mpr ⟨⟨ok_258, gk_258⟩, List.forall_mem_cons.mpr ⟨⟨ok_259, gk_259⟩, List.forall_mem_cons.mpr ⟨⟨ok_260, gk_260⟩, List.forall_mem_cons.mpr ⟨⟨ok_261, gk_261⟩, List.forall_mem_cons.mpr ⟨⟨ok_262, gk_262⟩, List.forall_mem_cons.mpr ⟨⟨ok_263, gk_263⟩, List.forall_mem_cons.mpr ⟨⟨ok_264, gk_264⟩, List.forall_mem_cons.mpr ⟨⟨ok_265, gk_265⟩, List.forall_mem_cons.mpr ⟨⟨ok_266, gk_266⟩, List.forall_mem_cons.mpr ⟨⟨ok_267, gk_267⟩, List.forall_mem_cons.mpr ⟨⟨ok_268, gk_268⟩, List.forall_mem_cons.mpr ⟨⟨ok_269, gk_269⟩, fun _ h => absurd h List.not_mem_nil⟩⟩⟩⟩⟩⟩⟩⟩⟩⟩⟩⟩⟩⟩⟩⟩⟩⟩⟩⟩⟩⟩⟩⟩⟩⟩⟩⟩⟩⟩
theorem MT_c9 : ∀ G ∈ [mr_270, mr_271, mr_272, mr_273, mr_274, mr_275, mr_276, mr_277, mr_278, mr_279, mr_280, mr_281, mr_282, mr_283, mr_284, mr_285, mr_286, mr_287, mr_288, mr_289, mr_290, mr_291, mr_292, mr_293, mr_294, mr_295, mr_296, mr_297, mr_298, mr_299], FOK MT G ∧ GOK G := List.forall_mem_cons.mpr ⟨⟨ok_270, gk_270⟩, List.forall_mem_cons.mpr ⟨⟨ok_271, gk_271⟩, List.forall_mem_cons.mpr ⟨⟨ok_272, gk_272⟩, List.forall_mem_cons.mpr ⟨⟨ok_273, gk_273⟩, List.forall_mem_cons.mpr ⟨⟨ok_274, gk_274⟩, List.forall_mem_cons.mpr ⟨⟨ok_275, gk_275⟩, List.forall_mem_cons.mpr ⟨⟨ok_276, gk_276⟩, List.forall_mem_cons.mpr ⟨⟨ok_277, gk_277⟩, List.forall_mem_cons.mpr ⟨⟨ok_278, gk_278⟩, List.forall_mem_cons.mpr ⟨⟨ok_279, gk_279⟩, List.forall_mem_cons.mpr ⟨⟨ok_280, gk_280⟩, List.forall_mem_cons.mpr ⟨⟨ok_281, gk_281⟩, List.forall_mem_cons.mpr ⟨⟨ok_282, gk_282⟩, List.forall_mem_cons.mpr ⟨⟨ok_283, gk_283⟩, List.forall_mem_cons.mpr ⟨⟨ok_284, gk_284⟩, List.forall_mem_cons.mpr ⟨⟨ok_285, gk_285⟩, List.forall_mem_cons.mpr ⟨⟨ok_286, gk_286⟩, List.forall_mem_cons.mpr ⟨⟨ok_287, gk_287⟩, List.forall_mem_cons.mpr ⟨⟨ok_288, gk_288⟩, List.forall_mem_cons.mpr ⟨⟨ok_289, gk_289⟩, List.forall_mem_cons.mpr ⟨⟨ok_290, gk_290⟩, List.forall_mem_cons.mpr ⟨⟨ok_291, gk_291⟩, List.forall_mem_cons.mpr ⟨⟨ok_292, gk_292⟩, List.forall_mem_cons.mpr ⟨⟨ok_293, gk_293⟩, List.forall_mem_cons.mpr ⟨⟨ok_294, gk_294⟩, List.forall_mem_cons.mpr ⟨⟨ok_295, gk_295⟩, List.forall_mem_cons.mpr ⟨⟨ok_296, gk_296⟩, List.forall_mem_cons.mpr ⟨⟨ok_297, gk_297⟩, List.forall_mem_cons.mpr ⟨⟨ok_298, gk_298⟩, List.forall_mem_cons.mpr ⟨⟨ok_299, gk_299⟩, fun _ h => absurd h List.not_mem_nil⟩⟩⟩⟩⟩⟩⟩⟩⟩⟩⟩⟩⟩⟩⟩⟩⟩⟩⟩⟩⟩⟩⟩⟩⟩⟩⟩⟩⟩⟩
theorem MT_c10 : ∀ G ∈ [mr_300, mr_301, mr_302, mr_303, mr_304, mr_305, mr_306, mr_307, mr_308, mr_309, mr_310, mr_311, mr_312, mr_313, mr_314, mr_315, mr_316, mr_317, mr_318, mr_319, mr_320, mr_321, mr_322, mr_323, mr_324, mr_325, mr_326, mr_327, mr_328, mr_329], FOK MT G ∧ GOK G := List.forall_mem_cons.mpr ⟨⟨ok_300, gk_300⟩, List.forall_mem_cons.mpr ⟨⟨ok_301, gk_301⟩, List.forall_mem_cons.mpr ⟨⟨ok_302, gk_302⟩, List.forall_mem_cons.mpr ⟨⟨ok_303, gk_303⟩, List.forall_mem_cons.mpr ⟨⟨ok_304, gk_304⟩, List.forall_mem_cons.mpr ⟨⟨ok_305, gk_305⟩, List.forall_mem_cons.mpr ⟨⟨ok_306, gk_306⟩, List.forall_mem_cons.mpr ⟨⟨ok_307, gk_307⟩, List.forall_mem_cons.mpr ⟨⟨ok_308, gk_308⟩, List.forall_mem_cons.mpr ⟨⟨ok_309, gk_309⟩, List.forall_mem_cons.mpr ⟨⟨ok_310, gk_310⟩, List.forall_mem_cons.mpr ⟨⟨ok_311, gk_311⟩, List.forall_mem_cons.mpr ⟨⟨ok_312, gk_312⟩, List.forall_mem_cons.mpr ⟨⟨ok_313, gk_313⟩, List.forall_mem_cons.mpr ⟨⟨ok_314, gk_314⟩, List.forall_mem_cons.mpr ⟨⟨ok_315, gk_315⟩, List.forall_mem_cons.mpr ⟨⟨ok_316, gk_316⟩, List.forall_mem_cons.mpr ⟨⟨ok_317, gk_317⟩, List.forall_mem_cons.mpr ⟨⟨ok_318, gk_318⟩, List.forall_mem_cons.mpr ⟨⟨ok_319, gk_319⟩, List.forall_mem_cons.mpr ⟨⟨ok_320, gk_320⟩, List.forall_mem_cons.mpr ⟨⟨ok_321, gk_321⟩, List.forall_mem_cons.mpr ⟨⟨ok_322, gk_322⟩, List.forall_mem_cons.mpr ⟨⟨ok_323, gk_323⟩, List.forall_mem_cons.mpr ⟨⟨ok_324, gk_324⟩, List.forall_mem_cons.mpr ⟨⟨ok_325, gk_325⟩, List.forall_mem_cons.mpr ⟨⟨ok_326, gk_326⟩, List.forall_mem_cons.mpr ⟨⟨ok_327, gk_327⟩, List.forall_mem_cons.mpr ⟨⟨ok_328, gk_328⟩, List.forall_mem_cons.mpr ⟨⟨ok_329, gk_329⟩, fun _ h => absurd h List.not_mem_nil⟩⟩⟩⟩⟩⟩⟩⟩⟩⟩⟩⟩⟩⟩⟩⟩⟩⟩⟩⟩⟩⟩⟩⟩⟩⟩⟩⟩⟩⟩
theorem MT_c11 : ∀ G ∈ [mr_330, mr_331, mr_332, mr_333, mr_334, mr_335], FOK MT G ∧ GOK G := List.forall_mem_cons.mpr ⟨⟨ok_330, gk_330⟩, List.forall_mem_cons.mpr ⟨⟨ok_331, gk_331⟩, List.forall_mem_cons.mpr ⟨⟨ok_332, gk_332⟩, List.forall_mem_cons.mpr ⟨⟨ok_333, gk_333⟩, List.forall_mem_cons.mpr ⟨⟨ok_334, gk_334⟩, List.forall_mem_cons.mpr ⟨⟨ok_335, gk_335⟩, fun _ h => absurd h List.not_mem_nil⟩⟩⟩⟩⟩⟩
theorem MT_all : ∀ G ∈ [mr_0, mr_1, mr_2, mr_3, mr_4, mr_5, mr_6, mr_7, mr_8, mr_9, mr_10, mr_11, mr_12, mr_13, mr_14, mr_15, mr_16, mr_17, mr_18, mr_19, mr_20, mr_21, mr_22, mr_23, mr_24, mr_25, mr_26, mr_27, mr_28, mr_29] ++ ([mr_30, mr_31, mr_32, mr_33, mr_34, mr_35, mr_36, mr_37, mr_38, mr_39, mr_40, mr_41, mr_42, mr_43, mr_44, mr_45, mr_46, mr_47, mr_48, mr_49, mr_50, mr_51, mr_52, mr_53, mr_54, mr_55, mr_56, mr_57, mr_58, mr_59] ++ ([mr_60, mr_61, mr_62, mr_63, mr_64, mr_65, mr_66, mr_67, mr_68, mr_69, mr_70, mr_71, mr_72, mr_73, mr_74, mr_75, mr_76, mr_77, mr_78, mr_79, mr_80, mr_81, mr_82, mr_83, mr_84, mr_85, mr_86, mr_87, mr_88, mr_89] ++ ([mr_90, mr_91, mr_92, mr_93, mr_94, mr_95, mr_96, mr_97, mr_98, mr_99, mr_100, mr_101, mr_102, mr_103, mr_104, mr_105, mr_106, mr_107, mr_108, mr_109, mr_110, mr_111, mr_112, mr_113, mr_114, mr_115, mr_116, mr_117, mr_118, mr_119] ++ ([mr_120, mr_121, mr_122, mr_123, mr_124, mr_125, mr_126, mr_127, mr_128, mr_129, mr_130, mr_131, mr_132, mr_133, mr_134, mr_135, mr_136, mr_137, mr_138, mr_139, mr_140, mr_141, mr_142, mr_143, mr_144, mr_145, mr_146, mr_147, mr_148, mr_149] ++ ([mr_150, mr_151, mr_152, mr_153, mr_154, mr_155, mr_156, mr_157, mr_158, mr_159, mr_160, mr_161, mr_162, mr_163, mr_164, mr_165, mr_166, mr_167, mr_168, mr_169, mr_170, mr_171, mr_172, mr_173, mr_174, mr_175, mr_176, mr_177, mr_178, mr_179] ++ ([mr_180, mr_181, mr_182, mr_183, mr_184, mr_185, mr_186, mr_187, mr_188, mr_189, mr_190, mr_191, mr_192, mr_193, mr_194, mr_195, mr_196, mr_197, mr_198, mr_199, mr_200, mr_201, mr_202, mr_203, mr_204, mr_205, mr_206, mr_207, mr_208, mr_209] ++ ([mr_210, mr_211, mr_212, mr_213, mr_214, mr_215, mr_216, mr_217, mr_218, mr_219, mr_220, mr_221, mr_222, mr_223, mr_224, mr_225, mr_226, mr_227, mr_228, mr_229, mr_230, mr_231, mr_232, mr_233, mr_234, mr_235, mr_236, mr_237, mr_238, mr_239] ++ ([mr_240, mr_241, mr_242, mr_243, mr_244, mr_245, mr_246, mr_247, mr_248, mr_249, mr_250, mr_251, mr_252, mr_253, mr_254, mr_255, mr_256, mr_257, mr_258, mr_259, mr_260, mr_261, mr_262, mr_263, mr_264, mr_265, mr_266, mr_267, mr_268, mr_269] ++ ([mr_270, mr_271, mr_272, mr_273, mr_274, mr_275, mr_276, mr_277, mr_278, mr_279, mr_280, mr_281, mr_282, mr_283, mr_284, mr_285, mr_286, mr_287, mr_288, mr_289, mr_290, mr_291, mr_292, mr_293, mr_294, mr_295, mr_296, mr_297, mr_298, mr_299] ++ ([mr_300, mr_301, mr_302, mr_303, mr_304, mr_305, mr_306, mr_307, mr_308, mr_309, mr_310, mr_311, mr_312, mr_313, mr_314, mr_315, mr_316, mr_317, mr_318, mr_319, mr_320, mr_321, mr_322, mr_323, mr_324, mr_325, mr_326, mr_327, mr_328, mr_329] ++ ([mr_330, mr_331, mr_332, mr_333, mr_334, mr_335]))))))))))), FOK MT G ∧ GOK G := List.forall_mem_append.mpr ⟨MT_c0, List.forall_mem_append.mpr ⟨MT_c1, List.forall_mem_append.mpr ⟨MT_c2, List.forall_mem_append.mpr ⟨MT_c3, List.forall_mem_append.mpr ⟨MT_c4, List.forall_mem_append.mpr ⟨MT_c5, List.forall_mem_append.mpr ⟨MT_c6, List.forall_mem_append.mpr ⟨MT_c7, List.forall_mem_append.mpr ⟨MT_c8, List.forall_mem_append.mpr ⟨MT_c9, List.forall_mem_append.mpr ⟨MT_c10, MT_c11⟩⟩⟩⟩⟩⟩⟩⟩⟩⟩⟩
end
/-! 10.c.all -/
section
set_option maxRecDepth 100000 in
theorem MTL_eq : MTL = [mr_0, mr_1, mr_2, mr_3, mr_4, mr_5, mr_6, mr_7, mr_8, mr_9, mr_10, mr_11, mr_12, mr_13, mr_14, mr_15, mr_16, mr_17, mr_18, mr_19, mr_20, mr_21, mr_22, mr_23, mr_24, mr_25, mr_26, mr_27, mr_28, mr_29] ++ ([mr_30, mr_31, mr_32, mr_33, mr_34, mr_35, mr_36, mr_37, mr_38, mr_39, mr_40, mr_41, mr_42, mr_43, mr_44, mr_45, mr_46, mr_47, mr_48, mr_49, mr_50, mr_51, mr_52, mr_53, mr_54, mr_55, mr_56, mr_57, mr_58, mr_59] ++ ([mr_60, mr_61, mr_62, mr_63, mr_64, mr_65, mr_66, mr_67, mr_68, mr_69, mr_70, mr_71, mr_72, mr_73, mr_74, mr_75, mr_76, mr_77, mr_78, mr_79, mr_80, mr_81, mr_82, mr_83, mr_84, mr_85, mr_86, mr_87, mr_88, mr_89] ++ ([mr_90, mr_91, mr_92, mr_93, mr_94, mr_95, mr_96, mr_97, mr_98, mr_99, mr_100, mr_101, mr_102, mr_103, mr_104, mr_105, mr_106, mr_107, mr_108, mr_109, mr_110, mr_111, mr_112, mr_113, mr_114, mr_115, mr_116, mr_117, mr_118, mr_119] ++ ([mr_120, mr_121, mr_122, mr_123, mr_124, mr_125, mr_126, mr_127, mr_128, mr_129, mr_130, mr_131, mr_132, mr_133, mr_134, mr_135, mr_136, mr_137, mr_138, mr_139, mr_140, mr_141, mr_142, mr_143, mr_144, mr_145, mr_146, mr_147, mr_148, mr_149] ++ ([mr_150, mr_151, mr_152, mr_153, mr_154, mr_155, mr_156, mr_157, mr_158, mr_159, mr_160, mr_161, mr_162, mr_163, mr_164, mr_165, mr_166, mr_167, mr_168, mr_169, mr_170, mr_171, mr_172, mr_173, mr_174, mr_175, mr_176, mr_177, mr_178, mr_179] ++ ([mr_180, mr_181, mr_182, mr_183, mr_184, mr_185, mr_186, mr_187, mr_188, mr_189, mr_190, mr_191, mr_192, mr_193, mr_194, mr_195, mr_196, mr_197, mr_198, mr_199, mr_200, mr_201, mr_202, mr_203, mr_204, mr_205, mr_206, mr_207, mr_208, mr_209] ++ ([mr_210, mr_211, mr_212, mr_213, mr_214, mr_215, mr_216, mr_217, mr_218, mr_219, mr_220, mr_221, mr_222, mr_223, mr_224, mr_225, mr_226, mr_227, mr_228, mr_229, mr_230, mr_231, mr_232, mr_233, mr_234, mr_235, mr_236, mr_237, mr_238, mr_239] ++ ([mr_240, mr_241, mr_242, mr_243, mr_244, mr_245, mr_246, mr_247, mr_248, mr_249, mr_250, mr_251, mr_252, mr_253, mr_254, mr_255, mr_256, mr_257, mr_258, mr_259, mr_260, mr_261, mr_262, mr_263, mr_264, mr_265, mr_266, mr_267, mr_268, mr_269] ++ ([mr_270, mr_271, mr_272, mr_273, mr_274, mr_275, mr_276, mr_277, mr_278, mr_279, mr_280, mr_281, mr_282, mr_283, mr_284, mr_285, mr_286, mr_287, mr_288, mr_289, mr_290, mr_291, mr_292, mr_293, mr_294, mr_295, mr_296, mr_297, mr_298, mr_299] ++ ([mr_300, mr_301, mr_302, mr_303, mr_304, mr_305, mr_306, mr_307, mr_308, mr_309, mr_310, mr_311, mr_312, mr_313, mr_314, mr_315, mr_316, mr_317, mr_318, mr_319, mr_320, mr_321, mr_322, mr_323, mr_324, mr_325, mr_326, mr_327, mr_328, mr_329] ++ ([mr_330, mr_331, mr_332, mr_333, mr_334, mr_335]))))))))))) := rfl
theorem MT_ok : ∀ j G, MT j = some G → FOK MT G ∧ GOK G := fun j G h => MT_all G (by rw [← MTL_eq]; exact List.mem_of_getElem? (l := MTL) h)
end
/-! 11.go -/
section
/-! RUNS: some fuel is enough -/
theorem oB_mk {α β : Type} {o : Option α} {f : α → Option β} {a : α} {b : β} (h : o = some a) (h2 : f a = some b) : oB o f = some b := by subst h; exact h2
theorem oC_mk {α : Type} {b : Bool} {o : Option α} {a : α} (h : b = true) (h2 : o = some a) : oC b o = some a := by subst h; exact h2
theorem amC_mono {MT : Nat → Option MR} {r1 r2 : AM} (hr : ∀ fr lo scr F pc lv st h x, r1 fr lo scr F pc lv st h = some x → r2 fr lo scr F pc lv st h = some x) {fr lo : Nat} {scr : AS} {F : MR} {i : Instr} {pc : Nat} {lv : ALv} {st : List Value} {h : AH} {kd id : Nat} {x : Option Value × AH} (hx : amC MT r1 fr lo scr F i pc lv st h kd id = some x) : amC MT r2 fr lo scr F i pc lv st h kd id = some x := by
  unfold amC at hx ⊢
  split at hx
  · obtain ⟨q, hpQ, h2⟩ := oB_inv hx
    obtain ⟨h3, h4⟩ := oC_inv h2
    exact oB_mk hpQ (oC_mk h3 (hr _ _ _ _ _ _ _ _ _ h4))
  · unfold sR at hx ⊢
    split at hx
    · obtain ⟨h3, h4⟩ := oC_inv hx
      exact oC_mk h3 (hr _ _ _ _ _ _ _ _ _ h4)
    · cases hx
  · obtain ⟨G, hG, h2⟩ := oB_inv hx
    obtain ⟨h3, h4⟩ := oC_inv h2
    obtain ⟨q, hpQ, h5⟩ := oB_inv h4
    exact oB_mk hG (oC_mk h3 (oB_mk (hr _ _ _ _ _ _ _ _ _ hpQ) (hr _ _ _ _ _ _ _ _ _ h5)))
theorem amB_mono {MT : Nat → Option MR} {r1 r2 : AM} (hr : ∀ fr lo scr F pc lv st h x, r1 fr lo scr F pc lv st h = some x → r2 fr lo scr F pc lv st h = some x) {fr lo : Nat} {scr : AS} {F : MR} {pc : Nat} {lv : ALv} {st : List Value} {h : AH} {x : Option Value × AH} (hx : amB MT r1 fr lo scr F pc lv st h = some x) : amB MT r2 fr lo scr F pc lv st h = some x := by
  unfold amB at hx ⊢
  obtain ⟨q, hpQ, h1⟩ := oB_inv hx
  refine oB_mk hpQ ?_
  split at h1
  · obtain ⟨y, hy, h2⟩ := oB_inv h1
    exact oB_mk hy (hr _ _ _ _ _ _ _ _ _ h2)
  · obtain ⟨y, hy, h2⟩ := oB_inv h1
    exact oB_mk hy (hr _ _ _ _ _ _ _ _ _ h2)
  · obtain ⟨y, hy, h2⟩ := oB_inv h1
    exact oB_mk hy (hr _ _ _ _ _ _ _ _ _ h2)
  · obtain ⟨y, hy, h2⟩ := oB_inv h1
    obtain ⟨h3, h4⟩ := oC_inv h2
    exact oB_mk hy (oC_mk h3 (amC_mono hr h4))
  · exact h1
theorem am_mono (MT : Nat → Option MR) : ∀ (n k fr lo : Nat) (scr : AS) (F : MR) (pc : Nat) (lv : ALv) (st : List Value) (h : AH) (x : Option Value × AH), am MT n fr lo scr F pc lv st h = some x → am MT (n + k) fr lo scr F pc lv st h = some x := by
  intro n
  induction n with
  | zero => intro k fr lo scr F pc lv st h x hx; cases hx
  | succ n ih =>
    intro k fr lo scr F pc lv st h x hx
    rw [show n + 1 + k = (n + k) + 1 by omega, am_s]
    rw [am_s] at hx
    exact amB_mono (fun fr lo scr F pc lv st h x z => ih k fr lo scr F pc lv st h x z) hx
def Go (MT : Nat → Option MR) (fr lo : Nat) (scr : AS) (F : MR) (pc : Nat) (lv : ALv) (st : List Value) (h : AH) (x : Option Value × AH) : Prop := ∃ n, am MT n fr lo scr F pc lv st h = some x
/-- some reading steps -/
def pst (F : MR) (scr : AS) (h : AH) : Nat → Nat → ALv → List Value → Option (Nat × ALv × List Value)
  | 0, pc, lv, st => some (pc, lv, st)
  | n + 1, pc, lv, st => oB (fc F pc) (fun q => oC (ikind q.1 == 0) (oB (stpP F scr q.1 q.2.2 pc lv st h) (fun x => pst F scr h n x.1 x.2.1 x.2.2)))
section GO
variable {MT : Nat → Option MR} {fr lo : Nat} {scr : AS} {F : MR} {pc pc' len tgt : Nat} {i : Instr} {lv lv' : ALv} {st st' : List Value} {h h' : AH} {x : Option Value × AH}
theorem Go_Ps (n : Nat) (hs : pst F scr h n pc lv st = some (pc', lv', st')) (g : Go MT fr lo scr F pc' lv' st' h x) : Go MT fr lo scr F pc lv st h x := by
  induction n generalizing pc lv st with
  | zero => cases hs; exact g
  | succ n ih =>
    unfold pst at hs
    obtain ⟨q, hpQ, h1⟩ := oB_inv hs
    obtain ⟨h2, h3⟩ := oC_inv h1
    obtain ⟨y, hy, h4⟩ := oB_inv h3
    obtain ⟨k, hk⟩ := ih h4
    refine ⟨k + 1, ?_⟩
    rw [am_s]
    unfold amB
    refine oB_mk hpQ ?_
    rw [eq_of_beq h2]
    exact oB_mk (stpA_P hy) hk
/-- one step on a cell outside -/
theorem Go_X (hf : fc F pc = some (i, len, tgt)) (hk : ikind i = 0) (hp : stpP F scr i tgt pc lv st h = none) (hs : stpX F i pc lv st = some (pc', lv', st')) (g : Go MT fr lo scr F pc' lv' st' h x) : Go MT fr lo scr F pc lv st h x := by
  obtain ⟨k, hk2⟩ := g
  refine ⟨k + 1, ?_⟩
  rw [am_s]
  unfold amB
  refine oB_mk hf ?_
  dsimp only
  rw [hk]
  exact oB_mk (a := (pc', lv', st')) (by unfold stpA; rw [hp]; exact hs) hk2
theorem Go_W (hf : fc F pc = some (i, len, tgt)) (hk : ikind i = 1) (hs : stpW F i pc st h = some (pc', st', h')) (g : Go MT fr lo scr F pc' lv st' h' x) : Go MT fr lo scr F pc lv st h x := by
  obtain ⟨k, hk2⟩ := g
  refine ⟨k + 1, ?_⟩
  rw [am_s]
  unfold amB
  refine oB_mk hf ?_
  dsimp only
  rw [hk]
  exact oB_mk hs hk2
theorem Go_N (hf : fc F pc = some (i, len, tgt)) (hk : ikind i = 2) (hs : stpN F i pc st h = some (pc', st', h')) (g : Go MT fr lo scr F pc' lv st' h' x) : Go MT fr lo scr F pc lv st h x := by
  obtain ⟨k, hk2⟩ := g
  refine ⟨k + 1, ?_⟩
  rw [am_s]
  unfold amB
  refine oB_mk hf ?_
  dsimp only
  rw [hk]
  exact oB_mk hs hk2
theorem Go_ret (hf : fc F pc = some (i, len, tgt)) (hk : ikind i = 4) (hs : doRet F i st h = some x) : Go MT fr lo scr F pc lv st h x := by
  refine ⟨1, ?_⟩
  rw [am_s]
  unfold amB
  refine oB_mk hf ?_
  dsimp only
  rw [hk]
  exact hs
theorem Go_copy {idx pos : Nat × Nat} {st2 : List Value} {e : Nat × Nat × Nat × Nat} (hf : fc F pc = some (i, len, tgt)) (hk : ikind i = 3) (he : fnd (mcl F) (callIx i) = some e) (hkd : callKd i e.1 = true) (h8 : e.1 = 8) (hc : acopy st h = some (st2, h')) (hb : (decide (1 ≤ fr) && decide (cats st2 + 40 ≤ lo)) = true) (g : Go MT fr lo scr F (pc + 3) lv st2 h' x) : Go MT fr lo scr F pc lv st h x := by
  obtain ⟨k, hk2⟩ := g
  refine ⟨k + 1, ?_⟩
  rw [am_s]
  unfold amB
  refine oB_mk hf ?_
  dsimp only
  rw [hk]
  refine oB_mk he (oC_mk hkd ?_)
  rw [h8]
  exact oB_mk hc (oC_mk hb hk2)
/-- a call: the callee's run, then the rest -/
theorem Go_call {kd id : Nat} {pos : Nat × Nat} {G : MR} {v1 : Option Value} {h1 : AH} {vs r : List Value} (hf : fc F pc = some (i, len, tgt)) (hk : ikind i = 3) (he : fnd (mcl F) (callIx i) = some (kd, id, pos)) (hkd : callKd i kd = true) (hlt : kd < 8) (hG : MT id = some G)
    (hvs : (st.take (nArg kd G)).reverse = vs) (hr : st.drop (nArg kd G) = r)
    (hb : (decide (nArg kd G ≤ st.length) && decide (1 ≤ fr) && decide (mml G + 19 ≤ lo) && decide (cats r ≤ 8) && decide (cats (st.take (nArg kd G)) ≤ mml G) && rcv kd (mci G) vs h) = true)
    (gc : Go MT (fr - 1) (lo - (mml G + 19)) none G 0 (lv_args 0 vs) [] h (v1, h1)) (g : Go MT fr lo scr F (pc + 3) lv (v1.toList ++ r) h1 x) : Go MT fr lo scr F pc lv st h x := by
  obtain ⟨k, hk2⟩ := g
  obtain ⟨n, hn⟩ := gc
  refine ⟨(n + k) + 1, ?_⟩
  rw [am_s]
  unfold amB
  refine oB_mk hf ?_
  dsimp only
  rw [hk]
  refine oB_mk he (oC_mk hkd ?_)
  dsimp only
  unfold amC
  split
  · omega
  · omega
  · subst hvs
    subst hr
    refine oB_mk hG (oC_mk hb (oB_mk (am_mono MT n k _ _ _ _ _ _ _ _ _ hn) ?_))
    dsimp only
    rw [Nat.add_comm n k]
    exact am_mono MT k n _ _ _ _ _ _ _ _ _ hk2
end GO
/-- a closed run -/
theorem Go_of {MT : Nat → Option MR} {fr lo : Nat} {scr : AS} {F : MR} {pc : Nat} {lv : ALv} {st : List Value} {h : AH} {x : Option Value × AH} (n : Nat) (hx : am MT n fr lo scr F pc lv st h = some x) : Go MT fr lo scr F pc lv st h x := ⟨n, hx⟩
/-- one step of a frame, a call in one -/
def stp1 (MT : Nat → Option MR) (rec : AM) (fr lo : Nat) (scr : AS) (F : MR) (s : Nat × ALv × List Value × AH) : Option (Nat × ALv × List Value × AH) :=
  oB (fc F s.1) (fun q => match ikind q.1 with
    | 0 => oB (stpP F scr q.1 q.2.2 s.1 s.2.1 s.2.2.1 s.2.2.2) (fun x => some (x.1, x.2.1, x.2.2, s.2.2.2))
    | 1 => oB (stpW F q.1 s.1 s.2.2.1 s.2.2.2) (fun x => some (x.1, s.2.1, x.2.1, x.2.2))
    | 2 => oB (stpN F q.1 s.1 s.2.2.1 s.2.2.2) (fun x => some (x.1, s.2.1, x.2.1, x.2.2))
    | 3 => oB (fnd (mcl F) (callIx q.1)) (fun e => oC (callKd q.1 e.1) (match e.1 with
      | 8 => oB (acopy s.2.2.1 s.2.2.2) (fun q => oC (decide (1 ≤ fr) && decide (cats q.1 + 40 ≤ lo)) (some (s.1 + 3, s.2.1, q.1, q.2)))
      | 9 => sR s.2.2.1 (fun _ r => oC (decide (1 ≤ fr) && decide (cats r + 12 ≤ lo)) (some (s.1 + 3, s.2.1, r, s.2.2.2)))
      | kd => oB (MT e.2.1) (fun G => oC (decide (nArg kd G ≤ s.2.2.1.length) && decide (1 ≤ fr) && decide (mml G + 19 ≤ lo) && decide (cats (s.2.2.1.drop (nArg kd G)) ≤ 8) && decide (cats (s.2.2.1.take (nArg kd G)) ≤ mml G) && rcv kd (mci G) (s.2.2.1.take (nArg kd G)).reverse s.2.2.2)
        (oB (rec (fr - 1) (lo - (mml G + 19)) none G 0 (lv_args 0 (s.2.2.1.take (nArg kd G)).reverse) [] s.2.2.2) (fun q => some (s.1 + 3, s.2.1, q.1.toList ++ s.2.2.1.drop (nArg kd G), q.2))))))
    | _ => none)
noncomputable def seg (MT : Nat → Option MR) (fuel fr lo : Nat) (scr : AS) (F : MR) (n : Nat) : (Nat × ALv × List Value × AH) → Option (Nat × ALv × List Value × AH) := Nat.rec (motive := fun _ => (Nat × ALv × List Value × AH) → Option (Nat × ALv × List Value × AH)) (fun s => some s) (fun _ ih s => oB (stp1 MT (am MT fuel) fr lo scr F s) ih) n
theorem Go_1 {MT : Nat → Option MR} {fuel fr lo : Nat} {scr : AS} {F : MR} {s s' : Nat × ALv × List Value × AH} {x : Option Value × AH} (h1 : stp1 MT (am MT fuel) fr lo scr F s = some s') (g : Go MT fr lo scr F s'.1 s'.2.1 s'.2.2.1 s'.2.2.2 x) : Go MT fr lo scr F s.1 s.2.1 s.2.2.1 s.2.2.2 x := by
  obtain ⟨k, hk⟩ := g
  refine ⟨(fuel + k) + 1, ?_⟩
  rw [am_s]
  unfold amB
  unfold stp1 at h1
  obtain ⟨q, hpQ, h2⟩ := oB_inv h1
  refine oB_mk hpQ ?_
  have hk2 : am MT (fuel + k) fr lo scr F s'.1 s'.2.1 s'.2.2.1 s'.2.2.2 = some x := by
    rw [Nat.add_comm]
    exact am_mono MT k fuel _ _ _ _ _ _ _ _ _ hk
  split at h2
  · obtain ⟨y, hy, h3⟩ := oB_inv h2
    cases h3
    rw [show ikind q.1 = 0 by assumption]
    refine oB_mk (stpA_P hy) ?_
    exact hk2
  · obtain ⟨y, hy, h3⟩ := oB_inv h2
    cases h3
    rw [show ikind q.1 = 1 by assumption]
    refine oB_mk hy ?_
    exact hk2
  · obtain ⟨y, hy, h3⟩ := oB_inv h2
    cases h3
    rw [show ikind q.1 = 2 by assumption]
    refine oB_mk hy ?_
    exact hk2
  · obtain ⟨y, hy, h3⟩ := oB_inv h2
    obtain ⟨h4, h5⟩ := oC_inv h3
    rw [show ikind q.1 = 3 by assumption]
    refine oB_mk hy ?_
    refine oC_mk h4 ?_
    unfold amC
    split at h5
    · rename_i e8
      obtain ⟨z, hz, h6⟩ := oB_inv h5
      obtain ⟨h7, h8⟩ := oC_inv h6
      cases h8
      rw [e8]
      refine oB_mk hz ?_
      exact oC_mk h7 hk2
    · rename_i e9
      obtain ⟨a, r, hz, h6⟩ := sR_inv h5
      obtain ⟨h7, h8⟩ := oC_inv h6
      cases h8
      rw [e9, hz]
      exact oC_mk h7 hk2
    · rename_i n8 n9
      obtain ⟨G, hG, h6⟩ := oB_inv h5
      obtain ⟨h7, h8⟩ := oC_inv h6
      obtain ⟨z, hz, h9⟩ := oB_inv h8
      cases h9
      split
      · exact absurd (by assumption) n8
      · exact absurd (by assumption) n9
      · refine oB_mk hG ?_
        refine oC_mk h7 ?_
        refine oB_mk (am_mono MT fuel k _ _ _ _ _ _ _ _ _ hz) ?_
        exact hk2
  · cases h2
theorem Go_seg {MT : Nat → Option MR} {fuel fr lo : Nat} {scr : AS} {F : MR} (n : Nat) {pc pc' : Nat} {lv lv' : ALv} {st st' : List Value} {h h' : AH} {x : Option Value × AH} (hs : seg MT fuel fr lo scr F n (pc, lv, st, h) = some (pc', lv', st', h')) (g : Go MT fr lo scr F pc' lv' st' h' x) : Go MT fr lo scr F pc lv st h x := by
  have key : ∀ (n : Nat) (s s' : Nat × ALv × List Value × AH), seg MT fuel fr lo scr F n s = some s' → Go MT fr lo scr F s'.1 s'.2.1 s'.2.2.1 s'.2.2.2 x → Go MT fr lo scr F s.1 s.2.1 s.2.2.1 s.2.2.2 x := by
    intro n
    induction n with
    | zero => intro s s' h1 g1; cases h1; exact g1
    | succ n ih =>
      intro s s' h1 g1
      have h2 : oB (stp1 MT (am MT fuel) fr lo scr F s) (seg MT fuel fr lo scr F n) = some s' := h1
      obtain ⟨y, hy, h3⟩ := oB_inv h2
      exact Go_1 hy (ih y s' h3 g1)
  exact key n (pc, lv, st, h) (pc', lv', st', h') hs g
/-- heaps compared number by number (the derived decision takes a millisecond a value) -/
theorem i32q {x y : Int32} (h : Nat.beq x.toUInt32.toNat y.toUInt32.toNat = true) : x = y := by
  have h1 := UInt32.toNat.inj (Nat.eq_of_beq_eq_true h)
  cases x; cases y
  exact congrArg Int32.ofUInt32 h1
def vlQ (a b : Value) : Bool := match a, b with
  | .int x, .int y => Nat.beq x.toUInt32.toNat y.toUInt32.toNat
  | .ref x, .ref y => Nat.beq x y
  | a, b => decide (a = b)
theorem vlQ_ok {a b : Value} (h : vlQ a b = true) : a = b := by
  unfold vlQ at h; split at h
  · exact congrArg Value.int (i32q h)
  · exact congrArg Value.ref (Nat.eq_of_beq_eq_true h)
  · exact of_decide_eq_true h
def lsQ : List Value → List Value → Bool
  | [], [] => true
  | a :: s, b :: t => vlQ a b && lsQ s t
  | _, _ => false
theorem lsQ_ok : ∀ {s t : List Value}, lsQ s t = true → s = t
  | [], [], _ => rfl
  | a :: s, b :: t, h => by
    unfold lsQ at h
    rw [Bool.and_eq_true] at h
    rw [vlQ_ok h.1, lsQ_ok h.2]
  | [], b :: t, h => absurd h (by unfold lsQ; exact Bool.false_ne_true)
  | a :: s, [], h => absurd h (by unfold lsQ; exact Bool.false_ne_true)
def hpQ : AH → AH → Bool
  | [], [] => true
  | a :: s, b :: t => (Nat.beq a.1 b.1 && Nat.beq a.2.1 b.2.1 && lsQ a.2.2 b.2.2) && hpQ s t
  | _, _ => false
theorem hpQ_ok : ∀ {s t : AH}, hpQ s t = true → s = t
  | [], [], _ => rfl
  | (k, c, l) :: s, (k', c', l') :: t, h => by
    unfold hpQ at h
    rw [Bool.and_eq_true, Bool.and_eq_true, Bool.and_eq_true] at h
    obtain ⟨⟨⟨h1, h2⟩, h3⟩, h4⟩ := h
    have e1 : k = k' := Nat.eq_of_beq_eq_true h1
    have e2 : c = c' := Nat.eq_of_beq_eq_true h2
    have e3 : l = l' := lsQ_ok h3
    rw [e1, e2, e3, hpQ_ok h4]
  | [], b :: t, h => absurd h (by unfold hpQ; exact Bool.false_ne_true)
  | a :: s, [], h => absurd h (by unfold hpQ; exact Bool.false_ne_true)
def eqS (a : Option (Nat × ALv × List Value × AH)) (b : Nat × ALv × List Value × AH) : Bool := match a with
  | some a => decide (a.1 = b.1) && decide (a.2.1 = b.2.1) && decide (a.2.2.1 = b.2.2.1) && hpQ a.2.2.2 b.2.2.2
  | none => false
theorem eqS_ok {a : Option (Nat × ALv × List Value × AH)} {b : Nat × ALv × List Value × AH} (h : eqS a b = true) : a = some b := by
  unfold eqS at h
  split at h
  · rename_i a
    simp only [Bool.and_eq_true, decide_eq_true_eq] at h
    obtain ⟨⟨⟨h1, h2⟩, h3⟩, h4⟩ := h
    have h5 := hpQ_ok h4
    clear h4
    obtain ⟨a1, a2, a3, a4⟩ := a
    obtain ⟨b1, b2, b3, b4⟩ := b
    dsimp only at h1 h2 h3 h5
    subst h1; subst h2; subst h3; subst h5
    rfl
  · cases h
end
/-! 11.y.fresh -/
section
/-! a new object of the class, and of the reference -/
def hx0 : AH := [(0, 10, [.ref 1, .ref 3, .ref 4, .null, .null, .null, .null, .null, .null, .null, .null]),
  (0, 8, [.ref 2, .int 0]),
  (1, 2, List.replicate 1600 (.int 0)),
  (0, 5, [.ref 1, .int 0, .int 0, .int 0, .int 0, .int 0, .int (-1)]),
  (0, 6, [.int 0, .int 0, .ref 5, .ref 6, .ref 7]),
  (1, 0, List.replicate 81 (.int 0)),
  (1, 0, List.replicate 81 (.int 0)),
  (1, 0, List.replicate 81 (.int 0)),
  (0, 2, [.null, .null])]
def hx1 : AH := [(0, 10, [.ref 1, .ref 3, .ref 4, .null, .null, .null, .null, .null, .null, .null, .null]),
  (0, 8, [.ref 2, .int 0]),
  (1, 2, List.replicate 1600 (.int 0)),
  (0, 5, [.ref 1, .int 0, .int 0, .int 0, .int 0, .int 0, .int (-1)]),
  (0, 6, [.int 0, .int 0, .ref 5, .ref 6, .ref 7]),
  (1, 0, List.replicate 81 (.int 0)),
  (1, 0, List.replicate 81 (.int 0)),
  (1, 0, List.replicate 81 (.int 0)),
  (0, 2, [.ref 4, .ref 9]),
  (1, 0, List.replicate 80 (.int 0))]
theorem sl_0 : seg MT 200 99 4977 none mr_21 11 (0, [(0, .ref 8), (1, .ref 4)], [], hx0) = some (19, [(2, .int 0), (0, .ref 8), (1, .ref 4)], [], hx1) := eqS_ok (by decide +kernel)
def hx2 : AH := [(0, 10, [.ref 1, .ref 3, .ref 4, .null, .null, .null, .null, .null, .null, .null, .null]),
  (0, 8, [.ref 2, .int 0]),
  (1, 2, List.replicate 1600 (.int 0)),
  (0, 5, [.ref 1, .int 0, .int 0, .int 0, .int 0, .int 0, .int (-1)]),
  (0, 6, [.int 0, .int 0, .ref 5, .ref 6, .ref 7]),
  (1, 0, List.replicate 81 (.int 0)),
  (1, 0, List.replicate 81 (.int 0)),
  (1, 0, List.replicate 81 (.int 0)),
  (0, 2, [.ref 4, .ref 9]),
  (1, 0, [.int 1, .int 278, .int 5736, .int 26752, .int 32768, .int 0, .int 0, .int 0, .int 0, .int 0, .int 0, .int 0, .int 0, .int 0, .int 0, .int 0, .int 0, .int 0, .int 0, .int 0, .int 0, .int 0, .int 0, .int 0, .int 0, .int 0, .int 0, .int 0, .int 0, .int 0, .int 0, .int 0, .int 0, .int 0, .int 0, .int 0, .int 0, .int 0, .int 0, .int 0, .int 0, .int 0, .int 0, .int 0, .int 0, .int 0, .int 0, .int 0, .int 0, .int 0, .int 0, .int 0, .int 0, .int 0, .int 0, .int 0, .int 0, .int 0, .int 0, .int 0, .int 0, .int 0, .int 0, .int 0, .int 0, .int 0, .int 0, .int 0, .int 0, .int 0, .int 0, .int 0, .int 0, .int 0, .int 0, .int 0, .int 0, .int 0, .int 0, .int 0])]
theorem sl_1 : seg MT 200 99 4977 none mr_21 362 (19, [(2, .int 0), (0, .ref 8), (1, .ref 4)], [], hx1) = some (19, [(2, .int 1), (3, .int 16), (0, .ref 8), (1, .ref 4)], [], hx2) := eqS_ok (by decide +kernel)
def hx3 : AH := [(0, 10, [.ref 1, .ref 3, .ref 4, .null, .null, .null, .null, .null, .null, .null, .null]),
  (0, 8, [.ref 2, .int 0]),
  (1, 2, List.replicate 1600 (.int 0)),
  (0, 5, [.ref 1, .int 0, .int 0, .int 0, .int 0, .int 0, .int (-1)]),
  (0, 6, [.int 0, .int 0, .ref 5, .ref 6, .ref 7]),
  (1, 0, List.replicate 81 (.int 0)),
  (1, 0, List.replicate 81 (.int 0)),
  (1, 0, List.replicate 81 (.int 0)),
  (0, 2, [.ref 4, .ref 9]),
  (1, 0, [.int 1, .int 278, .int 5736, .int 26752, .int 32768, .int 2, .int 553, .int 10644, .int 37952, .int 16384, .int 0, .int 0, .int 0, .int 0, .int 0, .int 0, .int 0, .int 0, .int 0, .int 0, .int 0, .int 0, .int 0, .int 0, .int 0, .int 0, .int 0, .int 0, .int 0, .int 0, .int 0, .int 0, .int 0, .int 0, .int 0, .int 0, .int 0, .int 0, .int 0, .int 0, .int 0, .int 0, .int 0, .int 0, .int 0, .int 0, .int 0, .int 0, .int 0, .int 0, .int 0, .int 0, .int 0, .int 0, .int 0, .int 0, .int 0, .int 0, .int 0, .int 0, .int 0, .int 0, .int 0, .int 0, .int 0, .int 0, .int 0, .int 0, .int 0, .int 0, .int 0, .int 0, .int 0, .int 0, .int 0, .int 0, .int 0, .int 0, .int 0, .int 0])]
theorem sl_2 : seg MT 200 99 4977 none mr_21 362 (19, [(2, .int 1), (3, .int 16), (0, .ref 8), (1, .ref 4)], [], hx2) = some (19, [(2, .int 2), (3, .int 16), (0, .ref 8), (1, .ref 4)], [], hx3) := eqS_ok (by decide +kernel)
def hx4 : AH := [(0, 10, [.ref 1, .ref 3, .ref 4, .null, .null, .null, .null, .null, .null, .null, .null]),
  (0, 8, [.ref 2, .int 0]),
  (1, 2, List.replicate 1600 (.int 0)),
  (0, 5, [.ref 1, .int 0, .int 0, .int 0, .int 0, .int 0, .int (-1)]),
  (0, 6, [.int 0, .int 0, .ref 5, .ref 6, .ref 7]),
  (1, 0, List.replicate 81 (.int 0)),
  (1, 0, List.replicate 81 (.int 0)),
  (1, 0, List.replicate 81 (.int 0)),
  (0, 2, [.ref 4, .ref 9]),
  (1, 0, [.int 1, .int 278, .int 5736, .int 26752, .int 32768, .int 2, .int 553, .int 10644, .int 37952, .int 16384, .int 4, .int 1097, .int 18834, .int 37408, .int 8192, .int 0, .int 0, .int 0, .int 0, .int 0, .int 0, .int 0, .int 0, .int 0, .int 0, .int 0, .int 0, .int 0, .int 0, .int 0, .int 0, .int 0, .int 0, .int 0, .int 0, .int 0, .int 0, .int 0, .int 0, .int 0, .int 0, .int 0, .int 0, .int 0, .int 0, .int 0, .int 0, .int 0, .int 0, .int 0, .int 0, .int 0, .int 0, .int 0, .int 0, .int 0, .int 0, .int 0, .int 0, .int 0, .int 0, .int 0, .int 0, .int 0, .int 0, .int 0, .int 0, .int 0, .int 0, .int 0, .int 0, .int 0, .int 0, .int 0, .int 0, .int 0, .int 0, .int 0, .int 0, .int 0])]
theorem sl_3 : seg MT 200 99 4977 none mr_21 362 (19, [(2, .int 2), (3, .int 16), (0, .ref 8), (1, .ref 4)], [], hx3) = some (19, [(2, .int 3), (3, .int 16), (0, .ref 8), (1, .ref 4)], [], hx4) := eqS_ok (by decide +kernel)
def hx5 : AH := [(0, 10, [.ref 1, .ref 3, .ref 4, .null, .null, .null, .null, .null, .null, .null, .null]),
  (0, 8, [.ref 2, .int 0]),
  (1, 2, List.replicate 1600 (.int 0)),
  (0, 5, [.ref 1, .int 0, .int 0, .int 0, .int 0, .int 0, .int (-1)]),
  (0, 6, [.int 0, .int 0, .ref 5, .ref 6, .ref 7]),
  (1, 0, List.replicate 81 (.int 0)),
  (1, 0, List.replicate 81 (.int 0)),
  (1, 0, List.replicate 81 (.int 0)),
  (0, 2, [.ref 4, .ref 9]),
  (1, 0, [.int 1, .int 278, .int 5736, .int 26752, .int 32768, .int 2, .int 553, .int 10644, .int 37952, .int 16384, .int 4, .int 1097, .int 18834, .int 37408, .int 8192, .int 8, .int 2182, .int 34401, .int 24848, .int 4096, .int 0, .int 0, .int 0, .int 0, .int 0, .int 0, .int 0, .int 0, .int 0, .int 0, .int 0, .int 0, .int 0, .int 0, .int 0, .int 0, .int 0, .int 0, .int 0, .int 0, .int 0, .int 0, .int 0, .int 0, .int 0, .int 0, .int 0, .int 0, .int 0, .int 0, .int 0, .int 0, .int 0, .int 0, .int 0, .int 0, .int 0, .int 0, .int 0, .int 0, .int 0, .int 0, .int 0, .int 0, .int 0, .int 0, .int 0, .int 0, .int 0, .int 0, .int 0, .int 0, .int 0, .int 0, .int 0, .int 0, .int 0, .int 0, .int 0, .int 0])]
theorem sl_4 : seg MT 200 99 4977 none mr_21 362 (19, [(2, .int 3), (3, .int 16), (0, .ref 8), (1, .ref 4)], [], hx4) = some (19, [(2, .int 4), (3, .int 16), (0, .ref 8), (1, .ref 4)], [], hx5) := eqS_ok (by decide +kernel)
def hx6 : AH := [(0, 10, [.ref 1, .ref 3, .ref 4, .null, .null, .null, .null, .null, .null, .null, .null]),
  (0, 8, [.ref 2, .int 0]),
  (1, 2, List.replicate 1600 (.int 0)),
  (0, 5, [.ref 1, .int 0, .int 0, .int 0, .int 0, .int 0, .int (-1)]),
  (0, 6, [.int 0, .int 0, .ref 5, .ref 6, .ref 7]),
  (1, 0, List.replicate 81 (.int 0)),
  (1, 0, List.replicate 81 (.int 0)),
  (1, 0, List.replicate 81 (.int 0)),
  (0, 2, [.ref 4, .ref 9]),
  (1, 0, [.int 1, .int 278, .int 5736, .int 26752, .int 32768, .int 2, .int 553, .int 10644, .int 37952, .int 16384, .int 4, .int 1097, .int 18834, .int 37408, .int 8192, .int 8, .int 2182, .int 34401, .int 24848, .int 4096, .int 16, .int 4193, .int 24966, .int 34312, .int 2048, .int 0, .int 0, .int 0, .int 0, .int 0, .int 0, .int 0, .int 0, .int 0, .int 0, .int 0, .int 0, .int 0, .int 0, .int 0, .int 0, .int 0, .int 0, .int 0, .int 0, .int 0, .int 0, .int 0, .int 0, .int 0, .int 0, .int 0, .int 0, .int 0, .int 0, .int 0, .int 0, .int 0, .int 0, .int 0, .int 0, .int 0, .int 0, .int 0, .int 0, .int 0, .int 0, .int 0, .int 0, .int 0, .int 0, .int 0, .int 0, .int 0, .int 0, .int 0, .int 0, .int 0, .int 0, .int 0])]
theorem sl_5 : seg MT 200 99 4977 none mr_21 362 (19, [(2, .int 4), (3, .int 16), (0, .ref 8), (1, .ref 4)], [], hx5) = some (19, [(2, .int 5), (3, .int 16), (0, .ref 8), (1, .ref 4)], [], hx6) := eqS_ok (by decide +kernel)
def hx7 : AH := [(0, 10, [.ref 1, .ref 3, .ref 4, .null, .null, .null, .null, .null, .null, .null, .null]),
  (0, 8, [.ref 2, .int 0]),
  (1, 2, List.replicate 1600 (.int 0)),
  (0, 5, [.ref 1, .int 0, .int 0, .int 0, .int 0, .int 0, .int (-1)]),
  (0, 6, [.int 0, .int 0, .ref 5, .ref 6, .ref 7]),
  (1, 0, List.replicate 81 (.int 0)),
  (1, 0, List.replicate 81 (.int 0)),
  (1, 0, List.replicate 81 (.int 0)),
  (0, 2, [.ref 4, .ref 9]),
  (1, 0, [.int 1, .int 278, .int 5736, .int 26752, .int 32768, .int 2, .int 553, .int 10644, .int 37952, .int 16384, .int 4, .int 1097, .int 18834, .int 37408, .int 8192, .int 8, .int 2182, .int 34401, .int 24848, .int 4096, .int 16, .int 4193, .int 24966, .int 34312, .int 2048, .int 32, .int 8338, .int 37449, .int 18692, .int 1024, .int 0, .int 0, .int 0, .int 0, .int 0, .int 0, .int 0, .int 0, .int 0, .int 0, .int 0, .int 0, .int 0, .int 0, .int 0, .int 0, .int 0, .int 0, .int 0, .int 0, .int 0, .int 0, .int 0, .int 0, .int 0, .int 0, .int 0, .int 0, .int 0, .int 0, .int 0, .int 0, .int 0, .int 0, .int 0, .int 0, .int 0, .int 0, .int 0, .int 0, .int 0, .int 0, .int 0, .int 0, .int 0, .int 0, .int 0, .int 0, .int 0, .int 0])]
theorem sl_6 : seg MT 200 99 4977 none mr_21 362 (19, [(2, .int 5), (3, .int 16), (0, .ref 8), (1, .ref 4)], [], hx6) = some (19, [(2, .int 6), (3, .int 16), (0, .ref 8), (1, .ref 4)], [], hx7) := eqS_ok (by decide +kernel)
def hx8 : AH := [(0, 10, [.ref 1, .ref 3, .ref 4, .null, .null, .null, .null, .null, .null, .null, .null]),
  (0, 8, [.ref 2, .int 0]),
  (1, 2, List.replicate 1600 (.int 0)),
  (0, 5, [.ref 1, .int 0, .int 0, .int 0, .int 0, .int 0, .int (-1)]),
  (0, 6, [.int 0, .int 0, .ref 5, .ref 6, .ref 7]),
  (1, 0, List.replicate 81 (.int 0)),
  (1, 0, List.replicate 81 (.int 0)),
  (1, 0, List.replicate 81 (.int 0)),
  (0, 2, [.ref 4, .ref 9]),
  (1, 0, [.int 1, .int 278, .int 5736, .int 26752, .int 32768, .int 2, .int 553, .int 10644, .int 37952, .int 16384, .int 4, .int 1097, .int 18834, .int 37408, .int 8192, .int 8, .int 2182, .int 34401, .int 24848, .int 4096, .int 16, .int 4193, .int 24966, .int 34312, .int 2048, .int 32, .int 8338, .int 37449, .int 18692, .int 1024, .int 64, .int 16532, .int 37929, .int 10498, .int 512, .int 0, .int 0, .int 0, .int 0, .int 0, .int 0, .int 0, .int 0, .int 0, .int 0, .int 0, .int 0, .int 0, .int 0, .int 0, .int 0, .int 0, .int 0, .int 0, .int 0, .int 0, .int 0, .int 0, .int 0, .int 0, .int 0, .int 0, .int 0, .int 0, .int 0, .int 0, .int 0, .int 0, .int 0, .int 0, .int 0, .int 0, .int 0, .int 0, .int 0, .int 0, .int 0, .int 0, .int 0, .int 0])]
theorem sl_7 : seg MT 200 99 4977 none mr_21 362 (19, [(2, .int 6), (3, .int 16), (0, .ref 8), (1, .ref 4)], [], hx7) = some (19, [(2, .int 7), (3, .int 16), (0, .ref 8), (1, .ref 4)], [], hx8) := eqS_ok (by decide +kernel)
def hx9 : AH := [(0, 10, [.ref 1, .ref 3, .ref 4, .null, .null, .null, .null, .null, .null, .null, .null]),
  (0, 8, [.ref 2, .int 0]),
  (1, 2, List.replicate 1600 (.int 0)),
  (0, 5, [.ref 1, .int 0, .int 0, .int 0, .int 0, .int 0, .int (-1)]),
  (0, 6, [.int 0, .int 0, .ref 5, .ref 6, .ref 7]),
  (1, 0, List.replicate 81 (.int 0)),
  (1, 0, List.replicate 81 (.int 0)),
  (1, 0, List.replicate 81 (.int 0)),
  (0, 2, [.ref 4, .ref 9]),
  (1, 0, [.int 1, .int 278, .int 5736, .int 26752, .int 32768, .int 2, .int 553, .int 10644, .int 37952, .int 16384, .int 4, .int 1097, .int 18834, .int 37408, .int 8192, .int 8, .int 2182, .int 34401, .int 24848, .int 4096, .int 16, .int 4193, .int 24966, .int 34312, .int 2048, .int 32, .int 8338, .int 37449, .int 18692, .int 1024, .int 64, .int 16532, .int 37929, .int 10498, .int 512, .int 128, .int 32872, .int 26646, .int 5633, .int 256, .int 0, .int 0, .int 0, .int 0, .int 0, .int 0, .int 0, .int 0, .int 0, .int 0, .int 0, .int 0, .int 0, .int 0, .int 0, .int 0, .int 0, .int 0, .int 0, .int 0, .int 0, .int 0, .int 0, .int 0, .int 0, .int 0, .int 0, .int 0, .int 0, .int 0, .int 0, .int 0, .int 0, .int 0, .int 0, .int 0, .int 0, .int 0, .int 0, .int 0])]
theorem sl_8 : seg MT 200 99 4977 none mr_21 362 (19, [(2, .int 7), (3, .int 16), (0, .ref 8), (1, .ref 4)], [], hx8) = some (19, [(2, .int 8), (3, .int 16), (0, .ref 8), (1, .ref 4)], [], hx9) := eqS_ok (by decide +kernel)
def hx10 : AH := [(0, 10, [.ref 1, .ref 3, .ref 4, .null, .null, .null, .null, .null, .null, .null, .null]),
  (0, 8, [.ref 2, .int 0]),
  (1, 2, List.replicate 1600 (.int 0)),
  (0, 5, [.ref 1, .int 0, .int 0, .int 0, .int 0, .int 0, .int (-1)]),
  (0, 6, [.int 0, .int 0, .ref 5, .ref 6, .ref 7]),
  (1, 0, List.replicate 81 (.int 0)),
  (1, 0, List.replicate 81 (.int 0)),
  (1, 0, List.replicate 81 (.int 0)),
  (0, 2, [.ref 4, .ref 9]),
  (1, 0, [.int 1, .int 278, .int 5736, .int 26752, .int 32768, .int 2, .int 553, .int 10644, .int 37952, .int 16384, .int 4, .int 1097, .int 18834, .int 37408, .int 8192, .int 8, .int 2182, .int 34401, .int 24848, .int 4096, .int 16, .int 4193, .int 24966, .int 34312, .int 2048, .int 32, .int 8338, .int 37449, .int 18692, .int 1024, .int 64, .int 16532, .int 37929, .int 10498, .int 512, .int 128, .int 32872, .int 26646, .int 5633, .int 256, .int 256, .int 5633, .int 26646, .int 32872, .int 128, .int 0, .int 0, .int 0, .int 0, .int 0, .int 0, .int 0, .int 0, .int 0, .int 0, .int 0, .int 0, .int 0, .int 0, .int 0, .int 0, .int 0, .int 0, .int 0, .int 0, .int 0, .int 0, .int 0, .int 0, .int 0, .int 0, .int 0, .int 0, .int 0, .int 0, .int 0, .int 0, .int 0, .int 0, .int 0])]
theorem sl_9 : seg MT 200 99 4977 none mr_21 362 (19, [(2, .int 8), (3, .int 16), (0, .ref 8), (1, .ref 4)], [], hx9) = some (19, [(2, .int 9), (3, .int 16), (0, .ref 8), (1, .ref 4)], [], hx10) := eqS_ok (by decide +kernel)
def hx11 : AH := [(0, 10, [.ref 1, .ref 3, .ref 4, .null, .null, .null, .null, .null, .null, .null, .null]),
  (0, 8, [.ref 2, .int 0]),
  (1, 2, List.replicate 1600 (.int 0)),
  (0, 5, [.ref 1, .int 0, .int 0, .int 0, .int 0, .int 0, .int (-1)]),
  (0, 6, [.int 0, .int 0, .ref 5, .ref 6, .ref 7]),
  (1, 0, List.replicate 81 (.int 0)),
  (1, 0, List.replicate 81 (.int 0)),
  (1, 0, List.replicate 81 (.int 0)),
  (0, 2, [.ref 4, .ref 9]),
  (1, 0, [.int 1, .int 278, .int 5736, .int 26752, .int 32768, .int 2, .int 553, .int 10644, .int 37952, .int 16384, .int 4, .int 1097, .int 18834, .int 37408, .int 8192, .int 8, .int 2182, .int 34401, .int 24848, .int 4096, .int 16, .int 4193, .int 24966, .int 34312, .int 2048, .int 32, .int 8338, .int 37449, .int 18692, .int 1024, .int 64, .int 16532, .int 37929, .int 10498, .int 512, .int 128, .int 32872, .int 26646, .int 5633, .int 256, .int 256, .int 5633, .int 26646, .int 32872, .int 128, .int 512, .int 10498, .int 37929, .int 16532, .int 64, .int 0, .int 0, .int 0, .int 0, .int 0, .int 0, .int 0, .int 0, .int 0, .int 0, .int 0, .int 0, .int 0, .int 0, .int 0, .int 0, .int 0, .int 0, .int 0, .int 0, .int 0, .int 0, .int 0, .int 0, .int 0, .int 0, .int 0, .int 0, .int 0, .int 0])]
theorem sl_10 : seg MT 200 99 4977 none mr_21 362 (19, [(2, .int 9), (3, .int 16), (0, .ref 8), (1, .ref 4)], [], hx10) = some (19, [(2, .int 10), (3, .int 16), (0, .ref 8), (1, .ref 4)], [], hx11) := eqS_ok (by decide +kernel)
def hx12 : AH := [(0, 10, [.ref 1, .ref 3, .ref 4, .null, .null, .null, .null, .null, .null, .null, .null]),
  (0, 8, [.ref 2, .int 0]),
  (1, 2, List.replicate 1600 (.int 0)),
  (0, 5, [.ref 1, .int 0, .int 0, .int 0, .int 0, .int 0, .int (-1)]),
  (0, 6, [.int 0, .int 0, .ref 5, .ref 6, .ref 7]),
  (1, 0, List.replicate 81 (.int 0)),
  (1, 0, List.replicate 81 (.int 0)),
  (1, 0, List.replicate 81 (.int 0)),
  (0, 2, [.ref 4, .ref 9]),
  (1, 0, [.int 1, .int 278, .int 5736, .int 26752, .int 32768, .int 2, .int 553, .int 10644, .int 37952, .int 16384, .int 4, .int 1097, .int 18834, .int 37408, .int 8192, .int 8, .int 2182, .int 34401, .int 24848, .int 4096, .int 16, .int 4193, .int 24966, .int 34312, .int 2048, .int 32, .int 8338, .int 37449, .int 18692, .int 1024, .int 64, .int 16532, .int 37929, .int 10498, .int 512, .int 128, .int 32872, .int 26646, .int 5633, .int 256, .int 256, .int 5633, .int 26646, .int 32872, .int 128, .int 512, .int 10498, .int 37929, .int 16532, .int 64, .int 1024, .int 18692, .int 37449, .int 8338, .int 32, .int 0, .int 0, .int 0, .int 0, .int 0, .int 0, .int 0, .int 0, .int 0, .int 0, .int 0, .int 0, .int 0, .int 0, .int 0, .int 0, .int 0, .int 0, .int 0, .int 0, .int 0, .int 0, .int 0, .int 0, .int 0])]
theorem sl_11 : seg MT 200 99 4977 none mr_21 362 (19, [(2, .int 10), (3, .int 16), (0, .ref 8), (1, .ref 4)], [], hx11) = some (19, [(2, .int 11), (3, .int 16), (0, .ref 8), (1, .ref 4)], [], hx12) := eqS_ok (by decide +kernel)
def hx13 : AH := [(0, 10, [.ref 1, .ref 3, .ref 4, .null, .null, .null, .null, .null, .null, .null, .null]),
  (0, 8, [.ref 2, .int 0]),
  (1, 2, List.replicate 1600 (.int 0)),
  (0, 5, [.ref 1, .int 0, .int 0, .int 0, .int 0, .int 0, .int (-1)]),
  (0, 6, [.int 0, .int 0, .ref 5, .ref 6, .ref 7]),
  (1, 0, List.replicate 81 (.int 0)),
  (1, 0, List.replicate 81 (.int 0)),
  (1, 0, List.replicate 81 (.int 0)),
  (0, 2, [.ref 4, .ref 9]),
  (1, 0, [.int 1, .int 278, .int 5736, .int 26752, .int 32768, .int 2, .int 553, .int 10644, .int 37952, .int 16384, .int 4, .int 1097, .int 18834, .int 37408, .int 8192, .int 8, .int 2182, .int 34401, .int 24848, .int 4096, .int 16, .int 4193, .int 24966, .int 34312, .int 2048, .int 32, .int 8338, .int 37449, .int 18692, .int 1024, .int 64, .int 16532, .int 37929, .int 10498, .int 512, .int 128, .int 32872, .int 26646, .int 5633, .int 256, .int 256, .int 5633, .int 26646, .int 32872, .int 128, .int 512, .int 10498, .int 37929, .int 16532, .int 64, .int 1024, .int 18692, .int 37449, .int 8338, .int 32, .int 2048, .int 34312, .int 24966, .int 4193, .int 16, .int 0, .int 0, .int 0, .int 0, .int 0, .int 0, .int 0, .int 0, .int 0, .int 0, .int 0, .int 0, .int 0, .int 0, .int 0, .int 0, .int 0, .int 0, .int 0, .int 0])]
theorem sl_12 : seg MT 200 99 4977 none mr_21 362 (19, [(2, .int 11), (3, .int 16), (0, .ref 8), (1, .ref 4)], [], hx12) = some (19, [(2, .int 12), (3, .int 16), (0, .ref 8), (1, .ref 4)], [], hx13) := eqS_ok (by decide +kernel)
def hx14 : AH := [(0, 10, [.ref 1, .ref 3, .ref 4, .null, .null, .null, .null, .null, .null, .null, .null]),
  (0, 8, [.ref 2, .int 0]),
  (1, 2, List.replicate 1600 (.int 0)),
  (0, 5, [.ref 1, .int 0, .int 0, .int 0, .int 0, .int 0, .int (-1)]),
  (0, 6, [.int 0, .int 0, .ref 5, .ref 6, .ref 7]),
  (1, 0, List.replicate 81 (.int 0)),
  (1, 0, List.replicate 81 (.int 0)),
  (1, 0, List.replicate 81 (.int 0)),
  (0, 2, [.ref 4, .ref 9]),
  (1, 0, [.int 1, .int 278, .int 5736, .int 26752, .int 32768, .int 2, .int 553, .int 10644, .int 37952, .int 16384, .int 4, .int 1097, .int 18834, .int 37408, .int 8192, .int 8, .int 2182, .int 34401, .int 24848, .int 4096, .int 16, .int 4193, .int 24966, .int 34312, .int 2048, .int 32, .int 8338, .int 37449, .int 18692, .int 1024, .int 64, .int 16532, .int 37929, .int 10498, .int 512, .int 128, .int 32872, .int 26646, .int 5633, .int 256, .int 256, .int 5633, .int 26646, .int 32872, .int 128, .int 512, .int 10498, .int 37929, .int 16532, .int 64, .int 1024, .int 18692, .int 37449, .int 8338, .int 32, .int 2048, .int 34312, .int 24966, .int 4193, .int 16, .int 4096, .int 24848, .int 34401, .int 2182, .int 8, .int 0, .int 0, .int 0, .int 0, .int 0, .int 0, .int 0, .int 0, .int 0, .int 0, .int 0, .int 0, .int 0, .int 0, .int 0])]
theorem sl_13 : seg MT 200 99 4977 none mr_21 362 (19, [(2, .int 12), (3, .int 16), (0, .ref 8), (1, .ref 4)], [], hx13) = some (19, [(2, .int 13), (3, .int 16), (0, .ref 8), (1, .ref 4)], [], hx14) := eqS_ok (by decide +kernel)
def hx15 : AH := [(0, 10, [.ref 1, .ref 3, .ref 4, .null, .null, .null, .null, .null, .null, .null, .null]),
  (0, 8, [.ref 2, .int 0]),
  (1, 2, List.replicate 1600 (.int 0)),
  (0, 5, [.ref 1, .int 0, .int 0, .int 0, .int 0, .int 0, .int (-1)]),
  (0, 6, [.int 0, .int 0, .ref 5, .ref 6, .ref 7]),
  (1, 0, List.replicate 81 (.int 0)),
  (1, 0, List.replicate 81 (.int 0)),
  (1, 0, List.replicate 81 (.int 0)),
  (0, 2, [.ref 4, .ref 9]),
  (1, 0, [.int 1, .int 278, .int 5736, .int 26752, .int 32768, .int 2, .int 553, .int 10644, .int 37952, .int 16384, .int 4, .int 1097, .int 18834, .int 37408, .int 8192, .int 8, .int 2182, .int 34401, .int 24848, .int 4096, .int 16, .int 4193, .int 24966, .int 34312, .int 2048, .int 32, .int 8338, .int 37449, .int 18692, .int 1024, .int 64, .int 16532, .int 37929, .int 10498, .int 512, .int 128, .int 32872, .int 26646, .int 5633, .int 256, .int 256, .int 5633, .int 26646, .int 32872, .int 128, .int 512, .int 10498, .int 37929, .int 16532, .int 64, .int 1024, .int 18692, .int 37449, .int 8338, .int 32, .int 2048, .int 34312, .int 24966, .int 4193, .int 16, .int 4096, .int 24848, .int 34401, .int 2182, .int 8, .int 8192, .int 37408, .int 18834, .int 1097, .int 4, .int 0, .int 0, .int 0, .int 0, .int 0, .int 0, .int 0, .int 0, .int 0, .int 0])]
theorem sl_14 : seg MT 200 99 4977 none mr_21 362 (19, [(2, .int 13), (3, .int 16), (0, .ref 8), (1, .ref 4)], [], hx14) = some (19, [(2, .int 14), (3, .int 16), (0, .ref 8), (1, .ref 4)], [], hx15) := eqS_ok (by decide +kernel)
def hx16 : AH := [(0, 10, [.ref 1, .ref 3, .ref 4, .null, .null, .null, .null, .null, .null, .null, .null]),
  (0, 8, [.ref 2, .int 0]),
  (1, 2, List.replicate 1600 (.int 0)),
  (0, 5, [.ref 1, .int 0, .int 0, .int 0, .int 0, .int 0, .int (-1)]),
  (0, 6, [.int 0, .int 0, .ref 5, .ref 6, .ref 7]),
  (1, 0, List.replicate 81 (.int 0)),
  (1, 0, List.replicate 81 (.int 0)),
  (1, 0, List.replicate 81 (.int 0)),
  (0, 2, [.ref 4, .ref 9]),
  (1, 0, [.int 1, .int 278, .int 5736, .int 26752, .int 32768, .int 2, .int 553, .int 10644, .int 37952, .int 16384, .int 4, .int 1097, .int 18834, .int 37408, .int 8192, .int 8, .int 2182, .int 34401, .int 24848, .int 4096, .int 16, .int 4193, .int 24966, .int 34312, .int 2048, .int 32, .int 8338, .int 37449, .int 18692, .int 1024, .int 64, .int 16532, .int 37929, .int 10498, .int 512, .int 128, .int 32872, .int 26646, .int 5633, .int 256, .int 256, .int 5633, .int 26646, .int 32872, .int 128, .int 512, .int 10498, .int 37929, .int 16532, .int 64, .int 1024, .int 18692, .int 37449, .int 8338, .int 32, .int 2048, .int 34312, .int 24966, .int 4193, .int 16, .int 4096, .int 24848, .int 34401, .int 2182, .int 8, .int 8192, .int 37408, .int 18834, .int 1097, .int 4, .int 16384, .int 37952, .int 10644, .int 553, .int 2, .int 0, .int 0, .int 0, .int 0, .int 0])]
theorem sl_15 : seg MT 200 99 4977 none mr_21 362 (19, [(2, .int 14), (3, .int 16), (0, .ref 8), (1, .ref 4)], [], hx15) = some (19, [(2, .int 15), (3, .int 16), (0, .ref 8), (1, .ref 4)], [], hx16) := eqS_ok (by decide +kernel)
def hx17 : AH := [(0, 10, [.ref 1, .ref 3, .ref 4, .null, .null, .null, .null, .null, .null, .null, .null]),
  (0, 8, [.ref 2, .int 0]),
  (1, 2, List.replicate 1600 (.int 0)),
  (0, 5, [.ref 1, .int 0, .int 0, .int 0, .int 0, .int 0, .int (-1)]),
  (0, 6, [.int 0, .int 0, .ref 5, .ref 6, .ref 7]),
  (1, 0, List.replicate 81 (.int 0)),
  (1, 0, List.replicate 81 (.int 0)),
  (1, 0, List.replicate 81 (.int 0)),
  (0, 2, [.ref 4, .ref 9]),
  (1, 0, [.int 1, .int 278, .int 5736, .int 26752, .int 32768, .int 2, .int 553, .int 10644, .int 37952, .int 16384, .int 4, .int 1097, .int 18834, .int 37408, .int 8192, .int 8, .int 2182, .int 34401, .int 24848, .int 4096, .int 16, .int 4193, .int 24966, .int 34312, .int 2048, .int 32, .int 8338, .int 37449, .int 18692, .int 1024, .int 64, .int 16532, .int 37929, .int 10498, .int 512, .int 128, .int 32872, .int 26646, .int 5633, .int 256, .int 256, .int 5633, .int 26646, .int 32872, .int 128, .int 512, .int 10498, .int 37929, .int 16532, .int 64, .int 1024, .int 18692, .int 37449, .int 8338, .int 32, .int 2048, .int 34312, .int 24966, .int 4193, .int 16, .int 4096, .int 24848, .int 34401, .int 2182, .int 8, .int 8192, .int 37408, .int 18834, .int 1097, .int 4, .int 16384, .int 37952, .int 10644, .int 553, .int 2, .int 32768, .int 26752, .int 5736, .int 278, .int 1])]
theorem sl_16 : seg MT 200 99 4977 none mr_21 362 (19, [(2, .int 15), (3, .int 16), (0, .ref 8), (1, .ref 4)], [], hx16) = some (19, [(2, .int 16), (3, .int 16), (0, .ref 8), (1, .ref 4)], [], hx17) := eqS_ok (by decide +kernel)
theorem sl_17 : seg MT 200 99 4977 none mr_21 3 (19, [(2, .int 16), (3, .int 16), (0, .ref 8), (1, .ref 4)], [], hx17) = some (66, [(2, .int 16), (3, .int 16), (0, .ref 8), (1, .ref 4)], [], hx17) := eqS_ok (by decide +kernel)
theorem run_L : Go MT 99 4977 none mr_21 0 [(0, .ref 8), (1, .ref 4)] [] hx0 (none, hx17) := Go_seg 11 sl_0 (Go_seg 362 sl_1 (Go_seg 362 sl_2 (Go_seg 362 sl_3 (Go_seg 362 sl_4 (Go_seg 362 sl_5 (Go_seg 362 sl_6 (Go_seg 362 sl_7 (Go_seg 362 sl_8 (Go_seg 362 sl_9 (Go_seg 362 sl_10 (Go_seg 362 sl_11 (Go_seg 362 sl_12 (Go_seg 362 sl_13 (Go_seg 362 sl_14 (Go_seg 362 sl_15 (Go_seg 362 sl_16 (Go_seg 3 sl_17 (Go_of 1 (by decide +kernel)))))))))))))))))))
def hx18 : AH := [(0, 10, List.replicate 11 (.null))]
theorem sx_0 : seg MT 2000 100 5000 none mr_143 24 (0, [(0, .ref 0)], [], hx18) = some (50, [(0, .ref 0)], [.ref 4, .ref 8, .ref 8, .ref 0], hx0) := eqS_ok (by decide +kernel)
def hx19 : AH := [(0, 10, [.ref 1, .ref 3, .ref 4, .ref 8, .ref 10, .ref 14, .null, .ref 70, .ref 71, .ref 18, .ref 44]),
  (0, 8, [.ref 2, .int 0]),
  (1, 2, List.replicate 1600 (.int 0)),
  (0, 5, [.ref 1, .int 0, .int 0, .int 0, .int 0, .int 0, .int (-1)]),
  (0, 6, [.int 0, .int 0, .ref 5, .ref 6, .ref 7]),
  (1, 0, List.replicate 81 (.int 0)),
  (1, 0, List.replicate 81 (.int 0)),
  (1, 0, List.replicate 81 (.int 0)),
  (0, 2, [.ref 4, .ref 9]),
  (1, 0, [.int 1, .int 278, .int 5736, .int 26752, .int 32768, .int 2, .int 553, .int 10644, .int 37952, .int 16384, .int 4, .int 1097, .int 18834, .int 37408, .int 8192, .int 8, .int 2182, .int 34401, .int 24848, .int 4096, .int 16, .int 4193, .int 24966, .int 34312, .int 2048, .int 32, .int 8338, .int 37449, .int 18692, .int 1024, .int 64, .int 16532, .int 37929, .int 10498, .int 512, .int 128, .int 32872, .int 26646, .int 5633, .int 256, .int 256, .int 5633, .int 26646, .int 32872, .int 128, .int 512, .int 10498, .int 37929, .int 16532, .int 64, .int 1024, .int 18692, .int 37449, .int 8338, .int 32, .int 2048, .int 34312, .int 24966, .int 4193, .int 16, .int 4096, .int 24848, .int 34401, .int 2182, .int 8, .int 8192, .int 37408, .int 18834, .int 1097, .int 4, .int 16384, .int 37952, .int 10644, .int 553, .int 2, .int 32768, .int 26752, .int 5736, .int 278, .int 1]),
  (0, 1, [.ref 11, .ref 12, .ref 13, .int 0, .int 0, .int 0]),
  (1, 0, List.replicate 16 (.int 0)),
  (1, 0, [.int 0, .int 0, .int 0, .int 0]),
  (1, 0, [.int 0, .int 0, .int 0, .int 0]),
  (0, 9, [.ref 15, .ref 16, .ref 17, .int 0, .int 0]),
  (1, 0, List.replicate 54 (.int 0)),
  (1, 0, [.int 0, .int 0, .int 0, .int 0, .int 0, .int 0]),
  (1, 0, [.int 0, .int 0, .int 0, .int 0, .int 0, .int 0]),
  (0, 4, [.int 0, .int 0, .int 0, .int 0, .ref 19, .ref 20, .int 0, .int 0, .int 0, .ref 23, .ref 24, .int 0, .ref 25, .ref 26, .int 0, .ref 27]),
  (3, 4, [.ref 28, .ref 32, .ref 36, .ref 40]),
  (0, 3, [.ref 21, .ref 22, .int 0]),
  (1, 0, List.replicate 13 (.int 0)),
  (1, 0, List.replicate 13 (.int 0)),
  (1, 0, [.int 0, .int 0, .int 0, .int 0]),
  (1, 0, [.int 0, .int 0, .int 0, .int 0]),
  (1, 0, [.int 0, .int 0, .int 0, .int 0, .int 0, .int 0]),
  (1, 0, [.int 0, .int 0, .int 0, .int 0, .int 0, .int 0]),
  (1, 0, List.replicate 60 (.int 0)),
  (0, 0, [.ref 29, .int 0, .int 0, .int (-1)]),
  (0, 3, [.ref 30, .ref 31, .int 0]),
  (1, 0, List.replicate 13 (.int 0)),
  (1, 0, List.replicate 13 (.int 0)),
  (0, 0, [.ref 33, .int 0, .int 0, .int (-1)]),
  (0, 3, [.ref 34, .ref 35, .int 0]),
  (1, 0, List.replicate 13 (.int 0)),
  (1, 0, List.replicate 13 (.int 0)),
  (0, 0, [.ref 37, .int 0, .int 0, .int (-1)]),
  (0, 3, [.ref 38, .ref 39, .int 0]),
  (1, 0, List.replicate 13 (.int 0)),
  (1, 0, List.replicate 13 (.int 0)),
  (0, 0, [.ref 41, .int 0, .int 0, .int (-1)]),
  (0, 3, [.ref 42, .ref 43, .int 0]),
  (1, 0, List.replicate 13 (.int 0)),
  (1, 0, List.replicate 13 (.int 0)),
  (0, 4, [.int 0, .int 0, .int 0, .int 0, .ref 45, .ref 46, .int 0, .int 0, .int 0, .ref 49, .ref 50, .int 0, .ref 51, .ref 52, .int 0, .ref 53]),
  (3, 4, [.ref 54, .ref 58, .ref 62, .ref 66]),
  (0, 3, [.ref 47, .ref 48, .int 0]),
  (1, 0, List.replicate 13 (.int 0)),
  (1, 0, List.replicate 13 (.int 0)),
  (1, 0, [.int 0, .int 0, .int 0, .int 0]),
  (1, 0, [.int 0, .int 0, .int 0, .int 0]),
  (1, 0, [.int 0, .int 0, .int 0, .int 0, .int 0, .int 0]),
  (1, 0, [.int 0, .int 0, .int 0, .int 0, .int 0, .int 0]),
  (1, 0, List.replicate 60 (.int 0)),
  (0, 0, [.ref 55, .int 0, .int 0, .int (-1)]),
  (0, 3, [.ref 56, .ref 57, .int 0]),
  (1, 0, List.replicate 13 (.int 0)),
  (1, 0, List.replicate 13 (.int 0)),
  (0, 0, [.ref 59, .int 0, .int 0, .int (-1)]),
  (0, 3, [.ref 60, .ref 61, .int 0]),
  (1, 0, List.replicate 13 (.int 0)),
  (1, 0, List.replicate 13 (.int 0)),
  (0, 0, [.ref 63, .int 0, .int 0, .int (-1)]),
  (0, 3, [.ref 64, .ref 65, .int 0]),
  (1, 0, List.replicate 13 (.int 0)),
  (1, 0, List.replicate 13 (.int 0)),
  (0, 0, [.ref 67, .int 0, .int 0, .int (-1)]),
  (0, 3, [.ref 68, .ref 69, .int 0]),
  (1, 0, List.replicate 13 (.int 0)),
  (1, 0, List.replicate 13 (.int 0)),
  (3, 5, [.ref 72, .ref 98, .null]),
  (1, 3, [.int 0, .int 0, .int 0]),
  (0, 4, [.int 0, .int 0, .int 0, .int 0, .ref 73, .ref 74, .int 0, .int 0, .int 0, .ref 77, .ref 78, .int 0, .ref 79, .ref 80, .int 0, .ref 81]),
  (3, 4, [.ref 82, .ref 86, .ref 90, .ref 94]),
  (0, 3, [.ref 75, .ref 76, .int 0]),
  (1, 0, List.replicate 13 (.int 0)),
  (1, 0, List.replicate 13 (.int 0)),
  (1, 0, [.int 0, .int 0, .int 0, .int 0]),
  (1, 0, [.int 0, .int 0, .int 0, .int 0]),
  (1, 0, [.int 0, .int 0, .int 0, .int 0, .int 0, .int 0]),
  (1, 0, [.int 0, .int 0, .int 0, .int 0, .int 0, .int 0]),
  (1, 0, List.replicate 60 (.int 0)),
  (0, 0, [.ref 83, .int 0, .int 0, .int (-1)]),
  (0, 3, [.ref 84, .ref 85, .int 0]),
  (1, 0, List.replicate 13 (.int 0)),
  (1, 0, List.replicate 13 (.int 0)),
  (0, 0, [.ref 87, .int 0, .int 0, .int (-1)]),
  (0, 3, [.ref 88, .ref 89, .int 0]),
  (1, 0, List.replicate 13 (.int 0)),
  (1, 0, List.replicate 13 (.int 0)),
  (0, 0, [.ref 91, .int 0, .int 0, .int (-1)]),
  (0, 3, [.ref 92, .ref 93, .int 0]),
  (1, 0, List.replicate 13 (.int 0)),
  (1, 0, List.replicate 13 (.int 0)),
  (0, 0, [.ref 95, .int 0, .int 0, .int (-1)]),
  (0, 3, [.ref 96, .ref 97, .int 0]),
  (1, 0, List.replicate 13 (.int 0)),
  (1, 0, List.replicate 13 (.int 0)),
  (0, 4, [.int 0, .int 0, .int 0, .int 0, .ref 99, .ref 100, .int 0, .int 0, .int 0, .ref 103, .ref 104, .int 0, .ref 105, .ref 106, .int 0, .ref 107]),
  (3, 4, [.ref 108, .ref 112, .ref 116, .ref 120]),
  (0, 3, [.ref 101, .ref 102, .int 0]),
  (1, 0, List.replicate 13 (.int 0)),
  (1, 0, List.replicate 13 (.int 0)),
  (1, 0, [.int 0, .int 0, .int 0, .int 0]),
  (1, 0, [.int 0, .int 0, .int 0, .int 0]),
  (1, 0, [.int 0, .int 0, .int 0, .int 0, .int 0, .int 0]),
  (1, 0, [.int 0, .int 0, .int 0, .int 0, .int 0, .int 0]),
  (1, 0, List.replicate 60 (.int 0)),
  (0, 0, [.ref 109, .int 0, .int 0, .int (-1)]),
  (0, 3, [.ref 110, .ref 111, .int 0]),
  (1, 0, List.replicate 13 (.int 0)),
  (1, 0, List.replicate 13 (.int 0)),
  (0, 0, [.ref 113, .int 0, .int 0, .int (-1)]),
  (0, 3, [.ref 114, .ref 115, .int 0]),
  (1, 0, List.replicate 13 (.int 0)),
  (1, 0, List.replicate 13 (.int 0)),
  (0, 0, [.ref 117, .int 0, .int 0, .int (-1)]),
  (0, 3, [.ref 118, .ref 119, .int 0]),
  (1, 0, List.replicate 13 (.int 0)),
  (1, 0, List.replicate 13 (.int 0)),
  (0, 0, [.ref 121, .int 0, .int 0, .int (-1)]),
  (0, 3, [.ref 122, .ref 123, .int 0]),
  (1, 0, List.replicate 13 (.int 0)),
  (1, 0, List.replicate 13 (.int 0))]
theorem sx_2 : seg MT 2000 100 5000 none mr_143 60 (53, [(0, .ref 0)], [.ref 8, .ref 0], hx17) = some (126, [(1, .int 2), (0, .ref 0)], [.ref 70], hx19) := eqS_ok (by decide +kernel)
def hx20 : AH := [(0, 10, [.ref 1, .ref 3, .ref 4, .ref 8, .ref 10, .ref 14, .ref 150, .ref 70, .ref 71, .ref 18, .ref 44]),
  (0, 8, [.ref 2, .int 0]),
  (1, 2, List.replicate 1600 (.int 0)),
  (0, 5, [.ref 1, .int 0, .int 0, .int 0, .int 0, .int 0, .int (-1)]),
  (0, 6, [.int 0, .int 0, .ref 5, .ref 6, .ref 7]),
  (1, 0, List.replicate 81 (.int 0)),
  (1, 0, List.replicate 81 (.int 0)),
  (1, 0, List.replicate 81 (.int 0)),
  (0, 2, [.ref 4, .ref 9]),
  (1, 0, [.int 1, .int 278, .int 5736, .int 26752, .int 32768, .int 2, .int 553, .int 10644, .int 37952, .int 16384, .int 4, .int 1097, .int 18834, .int 37408, .int 8192, .int 8, .int 2182, .int 34401, .int 24848, .int 4096, .int 16, .int 4193, .int 24966, .int 34312, .int 2048, .int 32, .int 8338, .int 37449, .int 18692, .int 1024, .int 64, .int 16532, .int 37929, .int 10498, .int 512, .int 128, .int 32872, .int 26646, .int 5633, .int 256, .int 256, .int 5633, .int 26646, .int 32872, .int 128, .int 512, .int 10498, .int 37929, .int 16532, .int 64, .int 1024, .int 18692, .int 37449, .int 8338, .int 32, .int 2048, .int 34312, .int 24966, .int 4193, .int 16, .int 4096, .int 24848, .int 34401, .int 2182, .int 8, .int 8192, .int 37408, .int 18834, .int 1097, .int 4, .int 16384, .int 37952, .int 10644, .int 553, .int 2, .int 32768, .int 26752, .int 5736, .int 278, .int 1]),
  (0, 1, [.ref 11, .ref 12, .ref 13, .int 0, .int 0, .int 0]),
  (1, 0, List.replicate 16 (.int 0)),
  (1, 0, [.int 0, .int 0, .int 0, .int 0]),
  (1, 0, [.int 0, .int 0, .int 0, .int 0]),
  (0, 9, [.ref 15, .ref 16, .ref 17, .int 0, .int 0]),
  (1, 0, List.replicate 54 (.int 0)),
  (1, 0, [.int 0, .int 0, .int 0, .int 0, .int 0, .int 0]),
  (1, 0, [.int 0, .int 0, .int 0, .int 0, .int 0, .int 0]),
  (0, 4, [.int 0, .int 0, .int 0, .int 0, .ref 19, .ref 20, .int 0, .int 0, .int 0, .ref 23, .ref 24, .int 0, .ref 25, .ref 26, .int 0, .ref 27]),
  (3, 4, [.ref 28, .ref 32, .ref 36, .ref 40]),
  (0, 3, [.ref 21, .ref 22, .int 0]),
  (1, 0, List.replicate 13 (.int 0)),
  (1, 0, List.replicate 13 (.int 0)),
  (1, 0, [.int 0, .int 0, .int 0, .int 0]),
  (1, 0, [.int 0, .int 0, .int 0, .int 0]),
  (1, 0, [.int 0, .int 0, .int 0, .int 0, .int 0, .int 0]),
  (1, 0, [.int 0, .int 0, .int 0, .int 0, .int 0, .int 0]),
  (1, 0, List.replicate 60 (.int 0)),
  (0, 0, [.ref 29, .int 0, .int 0, .int (-1)]),
  (0, 3, [.ref 30, .ref 31, .int 0]),
  (1, 0, List.replicate 13 (.int 0)),
  (1, 0, List.replicate 13 (.int 0)),
  (0, 0, [.ref 33, .int 0, .int 0, .int (-1)]),
  (0, 3, [.ref 34, .ref 35, .int 0]),
  (1, 0, List.replicate 13 (.int 0)),
  (1, 0, List.replicate 13 (.int 0)),
  (0, 0, [.ref 37, .int 0, .int 0, .int (-1)]),
  (0, 3, [.ref 38, .ref 39, .int 0]),
  (1, 0, List.replicate 13 (.int 0)),
  (1, 0, List.replicate 13 (.int 0)),
  (0, 0, [.ref 41, .int 0, .int 0, .int (-1)]),
  (0, 3, [.ref 42, .ref 43, .int 0]),
  (1, 0, List.replicate 13 (.int 0)),
  (1, 0, List.replicate 13 (.int 0)),
  (0, 4, [.int 0, .int 0, .int 0, .int 0, .ref 45, .ref 46, .int 0, .int 0, .int 0, .ref 49, .ref 50, .int 0, .ref 51, .ref 52, .int 0, .ref 53]),
  (3, 4, [.ref 54, .ref 58, .ref 62, .ref 66]),
  (0, 3, [.ref 47, .ref 48, .int 0]),
  (1, 0, List.replicate 13 (.int 0)),
  (1, 0, List.replicate 13 (.int 0)),
  (1, 0, [.int 0, .int 0, .int 0, .int 0]),
  (1, 0, [.int 0, .int 0, .int 0, .int 0]),
  (1, 0, [.int 0, .int 0, .int 0, .int 0, .int 0, .int 0]),
  (1, 0, [.int 0, .int 0, .int 0, .int 0, .int 0, .int 0]),
  (1, 0, List.replicate 60 (.int 0)),
  (0, 0, [.ref 55, .int 0, .int 0, .int (-1)]),
  (0, 3, [.ref 56, .ref 57, .int 0]),
  (1, 0, List.replicate 13 (.int 0)),
  (1, 0, List.replicate 13 (.int 0)),
  (0, 0, [.ref 59, .int 0, .int 0, .int (-1)]),
  (0, 3, [.ref 60, .ref 61, .int 0]),
  (1, 0, List.replicate 13 (.int 0)),
  (1, 0, List.replicate 13 (.int 0)),
  (0, 0, [.ref 63, .int 0, .int 0, .int (-1)]),
  (0, 3, [.ref 64, .ref 65, .int 0]),
  (1, 0, List.replicate 13 (.int 0)),
  (1, 0, List.replicate 13 (.int 0)),
  (0, 0, [.ref 67, .int 0, .int 0, .int (-1)]),
  (0, 3, [.ref 68, .ref 69, .int 0]),
  (1, 0, List.replicate 13 (.int 0)),
  (1, 0, List.replicate 13 (.int 0)),
  (3, 5, [.ref 72, .ref 98, .ref 124]),
  (1, 3, [.int 0, .int 0, .int 0]),
  (0, 4, [.int 0, .int 0, .int 0, .int 0, .ref 73, .ref 74, .int 0, .int 0, .int 0, .ref 77, .ref 78, .int 0, .ref 79, .ref 80, .int 0, .ref 81]),
  (3, 4, [.ref 82, .ref 86, .ref 90, .ref 94]),
  (0, 3, [.ref 75, .ref 76, .int 0]),
  (1, 0, List.replicate 13 (.int 0)),
  (1, 0, List.replicate 13 (.int 0)),
  (1, 0, [.int 0, .int 0, .int 0, .int 0]),
  (1, 0, [.int 0, .int 0, .int 0, .int 0]),
  (1, 0, [.int 0, .int 0, .int 0, .int 0, .int 0, .int 0]),
  (1, 0, [.int 0, .int 0, .int 0, .int 0, .int 0, .int 0]),
  (1, 0, List.replicate 60 (.int 0)),
  (0, 0, [.ref 83, .int 0, .int 0, .int (-1)]),
  (0, 3, [.ref 84, .ref 85, .int 0]),
  (1, 0, List.replicate 13 (.int 0)),
  (1, 0, List.replicate 13 (.int 0)),
  (0, 0, [.ref 87, .int 0, .int 0, .int (-1)]),
  (0, 3, [.ref 88, .ref 89, .int 0]),
  (1, 0, List.replicate 13 (.int 0)),
  (1, 0, List.replicate 13 (.int 0)),
  (0, 0, [.ref 91, .int 0, .int 0, .int (-1)]),
  (0, 3, [.ref 92, .ref 93, .int 0]),
  (1, 0, List.replicate 13 (.int 0)),
  (1, 0, List.replicate 13 (.int 0)),
  (0, 0, [.ref 95, .int 0, .int 0, .int (-1)]),
  (0, 3, [.ref 96, .ref 97, .int 0]),
  (1, 0, List.replicate 13 (.int 0)),
  (1, 0, List.replicate 13 (.int 0)),
  (0, 4, [.int 0, .int 0, .int 0, .int 0, .ref 99, .ref 100, .int 0, .int 0, .int 0, .ref 103, .ref 104, .int 0, .ref 105, .ref 106, .int 0, .ref 107]),
  (3, 4, [.ref 108, .ref 112, .ref 116, .ref 120]),
  (0, 3, [.ref 101, .ref 102, .int 0]),
  (1, 0, List.replicate 13 (.int 0)),
  (1, 0, List.replicate 13 (.int 0)),
  (1, 0, [.int 0, .int 0, .int 0, .int 0]),
  (1, 0, [.int 0, .int 0, .int 0, .int 0]),
  (1, 0, [.int 0, .int 0, .int 0, .int 0, .int 0, .int 0]),
  (1, 0, [.int 0, .int 0, .int 0, .int 0, .int 0, .int 0]),
  (1, 0, List.replicate 60 (.int 0)),
  (0, 0, [.ref 109, .int 0, .int 0, .int (-1)]),
  (0, 3, [.ref 110, .ref 111, .int 0]),
  (1, 0, List.replicate 13 (.int 0)),
  (1, 0, List.replicate 13 (.int 0)),
  (0, 0, [.ref 113, .int 0, .int 0, .int (-1)]),
  (0, 3, [.ref 114, .ref 115, .int 0]),
  (1, 0, List.replicate 13 (.int 0)),
  (1, 0, List.replicate 13 (.int 0)),
  (0, 0, [.ref 117, .int 0, .int 0, .int (-1)]),
  (0, 3, [.ref 118, .ref 119, .int 0]),
  (1, 0, List.replicate 13 (.int 0)),
  (1, 0, List.replicate 13 (.int 0)),
  (0, 0, [.ref 121, .int 0, .int 0, .int (-1)]),
  (0, 3, [.ref 122, .ref 123, .int 0]),
  (1, 0, List.replicate 13 (.int 0)),
  (1, 0, List.replicate 13 (.int 0)),
  (0, 4, [.int 0, .int 0, .int 0, .int 0, .ref 125, .ref 126, .int 0, .int 0, .int 0, .ref 129, .ref 130, .int 0, .ref 131, .ref 132, .int 0, .ref 133]),
  (3, 4, [.ref 134, .ref 138, .ref 142, .ref 146]),
  (0, 3, [.ref 127, .ref 128, .int 0]),
  (1, 0, List.replicate 13 (.int 0)),
  (1, 0, List.replicate 13 (.int 0)),
  (1, 0, [.int 0, .int 0, .int 0, .int 0]),
  (1, 0, [.int 0, .int 0, .int 0, .int 0]),
  (1, 0, [.int 0, .int 0, .int 0, .int 0, .int 0, .int 0]),
  (1, 0, [.int 0, .int 0, .int 0, .int 0, .int 0, .int 0]),
  (1, 0, List.replicate 60 (.int 0)),
  (0, 0, [.ref 135, .int 0, .int 0, .int (-1)]),
  (0, 3, [.ref 136, .ref 137, .int 0]),
  (1, 0, List.replicate 13 (.int 0)),
  (1, 0, List.replicate 13 (.int 0)),
  (0, 0, [.ref 139, .int 0, .int 0, .int (-1)]),
  (0, 3, [.ref 140, .ref 141, .int 0]),
  (1, 0, List.replicate 13 (.int 0)),
  (1, 0, List.replicate 13 (.int 0)),
  (0, 0, [.ref 143, .int 0, .int 0, .int (-1)]),
  (0, 3, [.ref 144, .ref 145, .int 0]),
  (1, 0, List.replicate 13 (.int 0)),
  (1, 0, List.replicate 13 (.int 0)),
  (0, 0, [.ref 147, .int 0, .int 0, .int (-1)]),
  (0, 3, [.ref 148, .ref 149, .int 0]),
  (1, 0, List.replicate 13 (.int 0)),
  (1, 0, List.replicate 13 (.int 0)),
  (3, 6, [.ref 151, .ref 153, .ref 155, .null]),
  (0, 7, [.ref 152, .int 0, .int 0, .int 0]),
  (2, 1, List.replicate 60 (.long 0)),
  (0, 7, [.ref 154, .int 0, .int 0, .int 0]),
  (2, 1, List.replicate 60 (.long 0)),
  (0, 7, [.ref 156, .int 0, .int 0, .int 0]),
  (2, 1, List.replicate 60 (.long 0)),
  (0, 7, [.null, .int 0, .int 0, .int 0])]
theorem sx_3 : seg MT 2000 100 5000 none mr_143 60 (126, [(1, .int 2), (0, .ref 0)], [.ref 70], hx19) = some (165, [(1, .int 3), (0, .ref 0)], [.ref 157, .ref 157, .int 3, .ref 150], hx20) := eqS_ok (by decide +kernel)
def hx21 : AH := [(0, 10, [.ref 1, .ref 3, .ref 4, .ref 8, .ref 10, .ref 14, .ref 150, .ref 70, .ref 71, .ref 18, .ref 44]),
  (0, 8, [.ref 2, .int 0]),
  (1, 2, List.replicate 1600 (.int 0)),
  (0, 5, [.ref 1, .int 0, .int 0, .int 0, .int 0, .int 0, .int (-1)]),
  (0, 6, [.int 0, .int 0, .ref 5, .ref 6, .ref 7]),
  (1, 0, List.replicate 81 (.int 0)),
  (1, 0, List.replicate 81 (.int 0)),
  (1, 0, List.replicate 81 (.int 0)),
  (0, 2, [.ref 4, .ref 9]),
  (1, 0, [.int 1, .int 278, .int 5736, .int 26752, .int 32768, .int 2, .int 553, .int 10644, .int 37952, .int 16384, .int 4, .int 1097, .int 18834, .int 37408, .int 8192, .int 8, .int 2182, .int 34401, .int 24848, .int 4096, .int 16, .int 4193, .int 24966, .int 34312, .int 2048, .int 32, .int 8338, .int 37449, .int 18692, .int 1024, .int 64, .int 16532, .int 37929, .int 10498, .int 512, .int 128, .int 32872, .int 26646, .int 5633, .int 256, .int 256, .int 5633, .int 26646, .int 32872, .int 128, .int 512, .int 10498, .int 37929, .int 16532, .int 64, .int 1024, .int 18692, .int 37449, .int 8338, .int 32, .int 2048, .int 34312, .int 24966, .int 4193, .int 16, .int 4096, .int 24848, .int 34401, .int 2182, .int 8, .int 8192, .int 37408, .int 18834, .int 1097, .int 4, .int 16384, .int 37952, .int 10644, .int 553, .int 2, .int 32768, .int 26752, .int 5736, .int 278, .int 1]),
  (0, 1, [.ref 11, .ref 12, .ref 13, .int 0, .int 0, .int 0]),
  (1, 0, List.replicate 16 (.int 0)),
  (1, 0, [.int 0, .int 0, .int 0, .int 0]),
  (1, 0, [.int 0, .int 0, .int 0, .int 0]),
  (0, 9, [.ref 15, .ref 16, .ref 17, .int 0, .int 0]),
  (1, 0, List.replicate 54 (.int 0)),
  (1, 0, [.int 0, .int 0, .int 0, .int 0, .int 0, .int 0]),
  (1, 0, [.int 0, .int 0, .int 0, .int 0, .int 0, .int 0]),
  (0, 4, [.int 0, .int 0, .int 0, .int 0, .ref 19, .ref 20, .int 0, .int 0, .int 0, .ref 23, .ref 24, .int 0, .ref 25, .ref 26, .int 0, .ref 27]),
  (3, 4, [.ref 28, .ref 32, .ref 36, .ref 40]),
  (0, 3, [.ref 21, .ref 22, .int 0]),
  (1, 0, List.replicate 13 (.int 0)),
  (1, 0, List.replicate 13 (.int 0)),
  (1, 0, [.int 0, .int 0, .int 0, .int 0]),
  (1, 0, [.int 0, .int 0, .int 0, .int 0]),
  (1, 0, [.int 0, .int 0, .int 0, .int 0, .int 0, .int 0]),
  (1, 0, [.int 0, .int 0, .int 0, .int 0, .int 0, .int 0]),
  (1, 0, List.replicate 60 (.int 0)),
  (0, 0, [.ref 29, .int 0, .int 0, .int (-1)]),
  (0, 3, [.ref 30, .ref 31, .int 0]),
  (1, 0, List.replicate 13 (.int 0)),
  (1, 0, List.replicate 13 (.int 0)),
  (0, 0, [.ref 33, .int 0, .int 0, .int (-1)]),
  (0, 3, [.ref 34, .ref 35, .int 0]),
  (1, 0, List.replicate 13 (.int 0)),
  (1, 0, List.replicate 13 (.int 0)),
  (0, 0, [.ref 37, .int 0, .int 0, .int (-1)]),
  (0, 3, [.ref 38, .ref 39, .int 0]),
  (1, 0, List.replicate 13 (.int 0)),
  (1, 0, List.replicate 13 (.int 0)),
  (0, 0, [.ref 41, .int 0, .int 0, .int (-1)]),
  (0, 3, [.ref 42, .ref 43, .int 0]),
  (1, 0, List.replicate 13 (.int 0)),
  (1, 0, List.replicate 13 (.int 0)),
  (0, 4, [.int 0, .int 0, .int 0, .int 0, .ref 45, .ref 46, .int 0, .int 0, .int 0, .ref 49, .ref 50, .int 0, .ref 51, .ref 52, .int 0, .ref 53]),
  (3, 4, [.ref 54, .ref 58, .ref 62, .ref 66]),
  (0, 3, [.ref 47, .ref 48, .int 0]),
  (1, 0, List.replicate 13 (.int 0)),
  (1, 0, List.replicate 13 (.int 0)),
  (1, 0, [.int 0, .int 0, .int 0, .int 0]),
  (1, 0, [.int 0, .int 0, .int 0, .int 0]),
  (1, 0, [.int 0, .int 0, .int 0, .int 0, .int 0, .int 0]),
  (1, 0, [.int 0, .int 0, .int 0, .int 0, .int 0, .int 0]),
  (1, 0, List.replicate 60 (.int 0)),
  (0, 0, [.ref 55, .int 0, .int 0, .int (-1)]),
  (0, 3, [.ref 56, .ref 57, .int 0]),
  (1, 0, List.replicate 13 (.int 0)),
  (1, 0, List.replicate 13 (.int 0)),
  (0, 0, [.ref 59, .int 0, .int 0, .int (-1)]),
  (0, 3, [.ref 60, .ref 61, .int 0]),
  (1, 0, List.replicate 13 (.int 0)),
  (1, 0, List.replicate 13 (.int 0)),
  (0, 0, [.ref 63, .int 0, .int 0, .int (-1)]),
  (0, 3, [.ref 64, .ref 65, .int 0]),
  (1, 0, List.replicate 13 (.int 0)),
  (1, 0, List.replicate 13 (.int 0)),
  (0, 0, [.ref 67, .int 0, .int 0, .int (-1)]),
  (0, 3, [.ref 68, .ref 69, .int 0]),
  (1, 0, List.replicate 13 (.int 0)),
  (1, 0, List.replicate 13 (.int 0)),
  (3, 5, [.ref 72, .ref 98, .ref 124]),
  (1, 3, [.int 0, .int 0, .int 0]),
  (0, 4, [.int 0, .int 0, .int 0, .int 0, .ref 73, .ref 74, .int 0, .int 0, .int 0, .ref 77, .ref 78, .int 0, .ref 79, .ref 80, .int 0, .ref 81]),
  (3, 4, [.ref 82, .ref 86, .ref 90, .ref 94]),
  (0, 3, [.ref 75, .ref 76, .int 0]),
  (1, 0, List.replicate 13 (.int 0)),
  (1, 0, List.replicate 13 (.int 0)),
  (1, 0, [.int 0, .int 0, .int 0, .int 0]),
  (1, 0, [.int 0, .int 0, .int 0, .int 0]),
  (1, 0, [.int 0, .int 0, .int 0, .int 0, .int 0, .int 0]),
  (1, 0, [.int 0, .int 0, .int 0, .int 0, .int 0, .int 0]),
  (1, 0, List.replicate 60 (.int 0)),
  (0, 0, [.ref 83, .int 0, .int 0, .int (-1)]),
  (0, 3, [.ref 84, .ref 85, .int 0]),
  (1, 0, List.replicate 13 (.int 0)),
  (1, 0, List.replicate 13 (.int 0)),
  (0, 0, [.ref 87, .int 0, .int 0, .int (-1)]),
  (0, 3, [.ref 88, .ref 89, .int 0]),
  (1, 0, List.replicate 13 (.int 0)),
  (1, 0, List.replicate 13 (.int 0)),
  (0, 0, [.ref 91, .int 0, .int 0, .int (-1)]),
  (0, 3, [.ref 92, .ref 93, .int 0]),
  (1, 0, List.replicate 13 (.int 0)),
  (1, 0, List.replicate 13 (.int 0)),
  (0, 0, [.ref 95, .int 0, .int 0, .int (-1)]),
  (0, 3, [.ref 96, .ref 97, .int 0]),
  (1, 0, List.replicate 13 (.int 0)),
  (1, 0, List.replicate 13 (.int 0)),
  (0, 4, [.int 0, .int 0, .int 0, .int 0, .ref 99, .ref 100, .int 0, .int 0, .int 0, .ref 103, .ref 104, .int 0, .ref 105, .ref 106, .int 0, .ref 107]),
  (3, 4, [.ref 108, .ref 112, .ref 116, .ref 120]),
  (0, 3, [.ref 101, .ref 102, .int 0]),
  (1, 0, List.replicate 13 (.int 0)),
  (1, 0, List.replicate 13 (.int 0)),
  (1, 0, [.int 0, .int 0, .int 0, .int 0]),
  (1, 0, [.int 0, .int 0, .int 0, .int 0]),
  (1, 0, [.int 0, .int 0, .int 0, .int 0, .int 0, .int 0]),
  (1, 0, [.int 0, .int 0, .int 0, .int 0, .int 0, .int 0]),
  (1, 0, List.replicate 60 (.int 0)),
  (0, 0, [.ref 109, .int 0, .int 0, .int (-1)]),
  (0, 3, [.ref 110, .ref 111, .int 0]),
  (1, 0, List.replicate 13 (.int 0)),
  (1, 0, List.replicate 13 (.int 0)),
  (0, 0, [.ref 113, .int 0, .int 0, .int (-1)]),
  (0, 3, [.ref 114, .ref 115, .int 0]),
  (1, 0, List.replicate 13 (.int 0)),
  (1, 0, List.replicate 13 (.int 0)),
  (0, 0, [.ref 117, .int 0, .int 0, .int (-1)]),
  (0, 3, [.ref 118, .ref 119, .int 0]),
  (1, 0, List.replicate 13 (.int 0)),
  (1, 0, List.replicate 13 (.int 0)),
  (0, 0, [.ref 121, .int 0, .int 0, .int (-1)]),
  (0, 3, [.ref 122, .ref 123, .int 0]),
  (1, 0, List.replicate 13 (.int 0)),
  (1, 0, List.replicate 13 (.int 0)),
  (0, 4, [.int 0, .int 0, .int 0, .int 0, .ref 125, .ref 126, .int 0, .int 0, .int 0, .ref 129, .ref 130, .int 0, .ref 131, .ref 132, .int 0, .ref 133]),
  (3, 4, [.ref 134, .ref 138, .ref 142, .ref 146]),
  (0, 3, [.ref 127, .ref 128, .int 0]),
  (1, 0, List.replicate 13 (.int 0)),
  (1, 0, List.replicate 13 (.int 0)),
  (1, 0, [.int 0, .int 0, .int 0, .int 0]),
  (1, 0, [.int 0, .int 0, .int 0, .int 0]),
  (1, 0, [.int 0, .int 0, .int 0, .int 0, .int 0, .int 0]),
  (1, 0, [.int 0, .int 0, .int 0, .int 0, .int 0, .int 0]),
  (1, 0, List.replicate 60 (.int 0)),
  (0, 0, [.ref 135, .int 0, .int 0, .int (-1)]),
  (0, 3, [.ref 136, .ref 137, .int 0]),
  (1, 0, List.replicate 13 (.int 0)),
  (1, 0, List.replicate 13 (.int 0)),
  (0, 0, [.ref 139, .int 0, .int 0, .int (-1)]),
  (0, 3, [.ref 140, .ref 141, .int 0]),
  (1, 0, List.replicate 13 (.int 0)),
  (1, 0, List.replicate 13 (.int 0)),
  (0, 0, [.ref 143, .int 0, .int 0, .int (-1)]),
  (0, 3, [.ref 144, .ref 145, .int 0]),
  (1, 0, List.replicate 13 (.int 0)),
  (1, 0, List.replicate 13 (.int 0)),
  (0, 0, [.ref 147, .int 0, .int 0, .int (-1)]),
  (0, 3, [.ref 148, .ref 149, .int 0]),
  (1, 0, List.replicate 13 (.int 0)),
  (1, 0, List.replicate 13 (.int 0)),
  (3, 6, [.ref 151, .ref 153, .ref 155, .ref 157]),
  (0, 7, [.ref 152, .int 0, .int 0, .int 0]),
  (2, 1, List.replicate 60 (.long 0)),
  (0, 7, [.ref 154, .int 0, .int 0, .int 0]),
  (2, 1, List.replicate 60 (.long 0)),
  (0, 7, [.ref 156, .int 0, .int 0, .int 0]),
  (2, 1, List.replicate 60 (.long 0)),
  (0, 7, [.ref 158, .int 0, .int 0, .int 0]),
  (2, 1, List.replicate 60 (.long 0))]
theorem sx_4 : seg MT 2000 100 5000 none mr_143 7 (165, [(1, .int 3), (0, .ref 0)], [.ref 157, .ref 157, .int 3, .ref 150], hx20) = some (175, [(1, .int 4), (0, .ref 0)], [], hx21) := eqS_ok (by decide +kernel)
abbrev hX : AH := hx21
theorem run_X : Go MT 100 5000 none mr_143 0 [(0, .ref 0)] [] [(0, 10, DFL 10)] (none, hX) := by
  refine Go_seg 24 sx_0 ?_
  refine Go_call (v1 := none) (h1 := hx17) (i := .invokespecial 34) (len := 3) (tgt := 0) (kd := 5) (id := 21) (pos := (1, 106)) (G := mr_21) (vs := [.ref 8, .ref 4]) (r := [.ref 8, .ref 0]) (by decide +kernel) rfl (by decide +kernel) rfl (by decide) rfl (by decide +kernel) (by decide +kernel) (by decide +kernel) run_L ?_
  refine Go_seg 60 sx_2 ?_
  refine Go_seg 60 sx_3 ?_
  refine Go_seg 7 sx_4 ?_
  exact Go_of 1 (by decide +kernel)
def hM : AH := [(0, 11, [.int 0, .ref 160, .ref 161, .ref 162, .ref 163, .int 0, .ref 164, .int 0, .int 0, .int 0, .int 0, .int 0, .int 0, .int (-1), .ref 165, .ref 166, .ref 167, .ref 168, .int 0, .ref 169, .ref 170, .int 0, .int 0, .int 0, .ref 171, .ref 172, .int 0, .ref 173, .ref 174, .ref 175, .ref 176, .int 0, .ref 177, .ref 178, .ref 179, .ref 180]),
  (1, 0, List.replicate 226 (.int 0)),
  (1, 0, List.replicate 678 (.int 0)),
  (1, 3, [.int 0, .int 0, .int 0]),
  (1, 2, List.replicate 1600 (.int 0)),
  (1, 0, [.int 0, .int 0, .int 0, .int 0, .int 0]),
  (1, 0, List.replicate 226 (.int 0)),
  (1, 0, List.replicate 81 (.int 0)),
  (1, 0, List.replicate 81 (.int 0)),
  (1, 0, List.replicate 81 (.int 0)),
  (1, 0, List.replicate 17 (.int 0)),
  (1, 0, List.replicate 17 (.int 0)),
  (1, 0, [.int 0, .int 0, .int 0, .int 0]),
  (1, 0, [.int 0, .int 0, .int 0, .int 0]),
  (1, 0, [.int 0, .int 0, .int 0, .int 0, .int 0, .int 0]),
  (1, 0, List.replicate 120 (.int 0)),
  (1, 0, [.int 0, .int 0, .int 0, .int 0, .int 0, .int 0]),
  (1, 0, [.int 0, .int 0, .int 0, .int 0, .int 0, .int 0]),
  (1, 0, [.int (-1), .int (-1), .int (-1), .int (-1)]),
  (1, 0, [.int 0, .int 0, .int 0, .int 0]),
  (2, 1, List.replicate 240 (.long 0)),
  (2, 1, List.replicate 60 (.long 0))]
def h0 : AH := hX ++ hM
theorem run_M : Go MT 100 5000 none mr_250 0 [(0, .ref 159)] [] (hX ++ [(0, 11, DFL 11)]) (none, h0) := Go_of 200 (by decide +kernel)
end
/-! 11.z.dec -/
section
/-! RUNS, further rules: more room, compares, closed runs -/
theorem amC_room {MT : Nat → Option MR} {r1 : AM} (hr : ∀ fr lo fr' lo' scr F pc lv st h x, fr ≤ fr' → lo ≤ lo' → r1 fr lo scr F pc lv st h = some x → r1 fr' lo' scr F pc lv st h = some x) {fr lo fr' lo' : Nat} (h1 : fr ≤ fr') (h2 : lo ≤ lo') {scr : AS} {F : MR} {i : Instr} {pc : Nat} {lv : ALv} {st : List Value} {h : AH} {kd id : Nat} {x : Option Value × AH} (hx : amC MT r1 fr lo scr F i pc lv st h kd id = some x) : amC MT r1 fr' lo' scr F i pc lv st h kd id = some x := by
  unfold amC at hx ⊢
  split at hx
  · obtain ⟨q, hq, h3⟩ := oB_inv hx
    obtain ⟨h4, h5⟩ := oC_inv h3
    simp only [Bool.and_eq_true, decide_eq_true_eq] at h4
    exact oB_mk hq (oC_mk (by simp only [Bool.and_eq_true, decide_eq_true_eq]; omega) (hr _ _ _ _ _ _ _ _ _ _ _ h1 h2 h5))
  · unfold sR at hx ⊢
    split at hx
    · obtain ⟨h4, h5⟩ := oC_inv hx
      simp only [Bool.and_eq_true, decide_eq_true_eq] at h4
      exact oC_mk (by simp only [Bool.and_eq_true, decide_eq_true_eq]; omega) (hr _ _ _ _ _ _ _ _ _ _ _ h1 h2 h5)
    · cases hx
  · obtain ⟨G, hG, h3⟩ := oB_inv hx
    obtain ⟨h4, h5⟩ := oC_inv h3
    obtain ⟨q, hq, h6⟩ := oB_inv h5
    simp only [Bool.and_eq_true, decide_eq_true_eq] at h4
    obtain ⟨⟨⟨⟨⟨b1, b2⟩, b3⟩, b4⟩, b5⟩, b6⟩ := h4
    refine oB_mk hG (oC_mk ?_ (oB_mk (hr _ _ _ _ _ _ _ _ _ _ _ (by omega) (by omega) hq) (hr _ _ _ _ _ _ _ _ _ _ _ h1 h2 h6)))
    simp only [Bool.and_eq_true, decide_eq_true_eq]
    exact ⟨⟨⟨⟨⟨b1, by omega⟩, by omega⟩, b4⟩, b5⟩, b6⟩
theorem am_room (MT : Nat → Option MR) : ∀ (n fr lo fr' lo' : Nat) (scr : AS) (F : MR) (pc : Nat) (lv : ALv) (st : List Value) (h : AH) (x : Option Value × AH), fr ≤ fr' → lo ≤ lo' → am MT n fr lo scr F pc lv st h = some x → am MT n fr' lo' scr F pc lv st h = some x := by
  intro n
  induction n with
  | zero => intro fr lo fr' lo' scr F pc lv st h x _ _ hx; cases hx
  | succ n ih =>
    intro fr lo fr' lo' scr F pc lv st h x h1 h2 hx
    rw [am_s] at hx ⊢
    unfold amB at hx ⊢
    obtain ⟨q, hq, h3⟩ := oB_inv hx
    refine oB_mk hq ?_
    split at h3
    · obtain ⟨y, hy, h4⟩ := oB_inv h3
      exact oB_mk hy (ih _ _ _ _ _ _ _ _ _ _ _ h1 h2 h4)
    · obtain ⟨y, hy, h4⟩ := oB_inv h3
      exact oB_mk hy (ih _ _ _ _ _ _ _ _ _ _ _ h1 h2 h4)
    · obtain ⟨y, hy, h4⟩ := oB_inv h3
      exact oB_mk hy (ih _ _ _ _ _ _ _ _ _ _ _ h1 h2 h4)
    · obtain ⟨y, hy, h4⟩ := oB_inv h3
      obtain ⟨h5, h6⟩ := oC_inv h4
      exact oB_mk hy (oC_mk h5 (amC_room (fun a b a' b' c d e f g i j h8 h9 z => ih a b a' b' c d e f g i j h8 h9 z) h1 h2 h6))
    · exact h3
theorem Go_room {MT : Nat → Option MR} {fr lo fr' lo' : Nat} {scr : AS} {F : MR} {pc : Nat} {lv : ALv} {st : List Value} {h : AH} {x : Option Value × AH} (g : Go MT fr lo scr F pc lv st h x) (h1 : fr ≤ fr') (h2 : lo ≤ lo') : Go MT fr' lo' scr F pc lv st h x := by
  obtain ⟨n, hn⟩ := g
  exact ⟨n, am_room MT n fr lo fr' lo' _ _ _ _ _ _ _ h1 h2 hn⟩
section GB
variable {MT : Nat → Option MR} {fr lo : Nat} {scr : AS} {F : MR} {pc len tgt a b : Nat} {i : Instr} {lv lv' : ALv} {st r : List Value} {h : AH} {x : Option Value × AH}
theorem Go_swO {dflt lo_ hi_ : Int} {offs : Array Int} {v : Int32} {t : Nat} (hf : fc F pc = some (.tableswitch dflt lo_ hi_ offs, len, tgt)) (hc : v.toInt < lo_ ∨ hi_ < v.toInt) (ht : (pc : Int) + dflt = (t : Int)) (g : Go MT fr lo scr F t lv r h x) : Go MT fr lo scr F pc lv (.int v :: r) h x := by
  refine Go_Ps 1 ?_ g
  refine oB_mk hf (oC_mk rfl ?_)
  have e : tsw pc dflt lo_ hi_ offs v = some t := by
    unfold tsw
    rw [if_pos hc]
    exact oC_mk (decide_eq_true (by omega)) (by rw [ht]; rfl)
  show oB (oB (tsw pc dflt lo_ hi_ offs v) _) _ = _
  rw [e]
  rfl
theorem Go_swI {dflt lo_ hi_ o : Int} {offs : Array Int} {v : Int32} {t : Nat} (hf : fc F pc = some (.tableswitch dflt lo_ hi_ offs, len, tgt)) (hc : ¬ (v.toInt < lo_ ∨ hi_ < v.toInt)) (ho : offs[(v.toInt - lo_).toNat]? = some o) (ht : (pc : Int) + o = (t : Int)) (g : Go MT fr lo scr F t lv r h x) : Go MT fr lo scr F pc lv (.int v :: r) h x := by
  refine Go_Ps 1 ?_ g
  refine oB_mk hf (oC_mk rfl ?_)
  have e : tsw pc dflt lo_ hi_ offs v = some t := by
    unfold tsw
    rw [if_neg hc, ho]
    exact oC_mk (decide_eq_true (by omega)) (by rw [ht]; rfl)
  show oB (oB (tsw pc dflt lo_ hi_ offs v) _) _ = _
  rw [e]
  rfl
end GB
/-! compares by their integers -/
theorem lgc_a {x y : Int64} (h : x.toInt < y.toInt) : lg_cmp x y = -1 := by
  have h1 : x < y := Int64.lt_iff_toInt_lt.mpr h
  have h2 : ¬ x > y := fun z => by have := Int64.lt_iff_toInt_lt.mp z; omega
  have h3 : ¬ x = y := fun z => by rw [z] at h; omega
  unfold lg_cmp
  rw [if_neg h2, if_neg h3]
theorem lgc_b {x y : Int64} (h : y.toInt < x.toInt) : lg_cmp x y = 1 := by
  unfold lg_cmp
  rw [if_pos (Int64.lt_iff_toInt_lt.mpr h)]
theorem lgc_c {x y : Int64} (h : x.toInt = y.toInt) : lg_cmp x y = 0 := by
  have e : x = y := Int64.toInt_inj.mp h
  subst e
  have h2 : ¬ x > x := fun z => by have := Int64.lt_iff_toInt_lt.mp z; omega
  unfold lg_cmp
  rw [if_neg h2, if_pos rfl]
theorem lgT_lt {x y : Int64} (h : x.toInt < y.toInt) : lg_cmp x y < 0 := by rw [lgc_a h]; decide
theorem lgF_lt {x y : Int64} (h : ¬ x.toInt < y.toInt) : ¬ lg_cmp x y < 0 := by
  rcases (show y.toInt < x.toInt ∨ x.toInt = y.toInt by omega) with z | z
  · rw [lgc_b z]; decide
  · rw [lgc_c z]; decide
theorem lgT_gt {x y : Int64} (h : y.toInt < x.toInt) : 0 < lg_cmp x y := by rw [lgc_b h]; decide
theorem lgF_gt {x y : Int64} (h : ¬ y.toInt < x.toInt) : ¬ 0 < lg_cmp x y := by
  rcases (show x.toInt < y.toInt ∨ x.toInt = y.toInt by omega) with z | z
  · rw [lgc_a z]; decide
  · rw [lgc_c z]; decide
end
/-! 12.a.typed -/
section
/-! TYPED HEAPS: the cells that the two constructors leave; shapes fixed, contents by types -/
def SHP : List (Nat × Nat) := [(0, 10), (0, 8), (1, 2), (0, 5), (0, 6), (1, 0), (1, 0), (1, 0), (0, 2), (1, 0), (0, 1), (1, 0), (1, 0), (1, 0), (0, 9), (1, 0), (1, 0), (1, 0), (0, 4), (3, 4), (0, 3), (1, 0), (1, 0), (1, 0), (1, 0), (1, 0), (1, 0), (1, 0), (0, 0), (0, 3), (1, 0), (1, 0), (0, 0), (0, 3), (1, 0), (1, 0), (0, 0), (0, 3), (1, 0), (1, 0), (0, 0), (0, 3), (1, 0), (1, 0), (0, 4), (3, 4), (0, 3), (1, 0), (1, 0), (1, 0), (1, 0), (1, 0), (1, 0), (1, 0), (0, 0), (0, 3), (1, 0), (1, 0), (0, 0), (0, 3), (1, 0), (1, 0), (0, 0), (0, 3), (1, 0), (1, 0), (0, 0), (0, 3), (1, 0), (1, 0), (3, 5), (1, 3), (0, 4), (3, 4), (0, 3), (1, 0), (1, 0), (1, 0), (1, 0), (1, 0), (1, 0), (1, 0), (0, 0), (0, 3), (1, 0), (1, 0), (0, 0), (0, 3), (1, 0), (1, 0), (0, 0), (0, 3), (1, 0), (1, 0), (0, 0), (0, 3), (1, 0), (1, 0), (0, 4), (3, 4), (0, 3), (1, 0), (1, 0), (1, 0), (1, 0), (1, 0), (1, 0), (1, 0), (0, 0), (0, 3), (1, 0), (1, 0), (0, 0), (0, 3), (1, 0), (1, 0), (0, 0), (0, 3), (1, 0), (1, 0), (0, 0), (0, 3), (1, 0), (1, 0), (0, 4), (3, 4), (0, 3), (1, 0), (1, 0), (1, 0), (1, 0), (1, 0), (1, 0), (1, 0), (0, 0), (0, 3), (1, 0), (1, 0), (0, 0), (0, 3), (1, 0), (1, 0), (0, 0), (0, 3), (1, 0), (1, 0), (0, 0), (0, 3), (1, 0), (1, 0), (3, 6), (0, 7), (2, 1), (0, 7), (2, 1), (0, 7), (2, 1), (0, 7), (2, 1), (0, 11), (1, 0), (1, 0), (1, 3), (1, 2), (1, 0), (1, 0), (1, 0), (1, 0), (1, 0), (1, 0), (1, 0), (1, 0), (1, 0), (1, 0), (1, 0), (1, 0), (1, 0), (1, 0), (1, 0), (2, 1), (2, 1)]
def TAGS : List Nat := [0, 1, 2, 3, 4, 5, 6, 7, 8, 9, 10, 11, 12, 13, 14, 15, 16, 17, 18, 19, 20, 21, 22, 23, 24, 25, 26, 27, 28, 20, 21, 22, 28, 20, 21, 22, 28, 20, 21, 22, 28, 20, 21, 22, 18, 19, 20, 21, 22, 23, 24, 25, 26, 27, 28, 20, 21, 22, 28, 20, 21, 22, 28, 20, 21, 22, 28, 20, 21, 22, 29, 30, 31, 19, 20, 21, 22, 23, 24, 25, 26, 27, 28, 20, 21, 22, 28, 20, 21, 22, 28, 20, 21, 22, 28, 20, 21, 22, 31, 19, 20, 21, 22, 23, 24, 25, 26, 27, 28, 20, 21, 22, 28, 20, 21, 22, 28, 20, 21, 22, 28, 20, 21, 22, 31, 19, 20, 21, 22, 23, 24, 25, 26, 27, 28, 20, 21, 22, 28, 20, 21, 22, 28, 20, 21, 22, 28, 20, 21, 22, 32, 33, 34, 33, 34, 33, 34, 33, 34, 35, 36, 37, 38, 39, 40, 41, 42, 43, 44, 45, 46, 47, 48, 49, 50, 51, 52, 53, 54, 55, 56]
/-- tag: kind, class or type, length, types of its places (0 int, 1 long, each with its bounds; 2 a cell of that tag) -/
def TT : List (Nat × Nat × Nat × List (Nat × Int × Int)) := [
  (0, 10, 11, [(2, 1, 0), (2, 3, 0), (2, 4, 0), (2, 8, 0), (2, 10, 0), (2, 14, 0), (2, 32, 0), (2, 29, 0), (2, 30, 0), (2, 18, 0), (2, 18, 0)]), -- 0 DoorSchool
  (0, 8, 2, [(2, 2, 0), (0, 0, 1600)]), -- 1 Tape
  (1, 2, 1600, [(0, (-128), 127)]), -- 2 Tape.bytes
  (0, 5, 7, [(2, 1, 0), (0, 0, 4), (0, 0, 1600), (0, 0, 1600), (0, (-2147483648), 1000000), (0, 0, 3), (0, (-1), 1600)]), -- 3 Reader
  (0, 6, 5, [(0, 0, 16), (0, 0, 81), (2, 5, 0), (2, 6, 0), (2, 7, 0)]), -- 4 Rules
  (1, 0, 81, [(0, 0, 15)]), -- 5 Rules.signs
  (1, 0, 81, [(0, 0, 15)]), -- 6 Rules.there
  (1, 0, 81, [(0, (-2147483648), 2147483647)]), -- 7 Rules.deeds
  (0, 2, 2, [(2, 4, 0), (2, 9, 0)]), -- 8 Learner
  (1, 0, 80, [(0, (-2147483648), 2147483647)]), -- 9 Learner.apart
  (0, 1, 6, [(2, 11, 0), (2, 12, 0), (2, 13, 0), (0, 0, 4), (0, 0, 4), (0, (-2147483648), 2147483647)]), -- 10 Hanging
  (1, 0, 16, [(0, (-2147483648), 2147483647)]), -- 11 Hanging.amiss
  (1, 0, 4, [(0, 0, 3)]), -- 12 Hanging.row
  (1, 0, 4, [(0, 0, 3)]), -- 13 Hanging.firstRow
  (0, 9, 5, [(2, 15, 0), (2, 16, 0), (2, 17, 0), (0, (-1), 4), (0, 0, 1000)]), -- 14 Timetable
  (1, 0, 54, [(0, (-2147483648), 2147483647)]), -- 15 Timetable.busy
  (1, 0, 6, [(0, 0, 54)]), -- 16 Timetable.begins
  (1, 0, 6, [(0, 0, 54)]), -- 17 Timetable.firstBegins
  (0, 4, 16, [(0, 0, 1601), (0, (-1), 4), (0, (-1), 3), (0, 0, 4), (2, 19, 0), (2, 20, 0), (0, 0, 15), (0, 0, 15), (0, 0, 4), (2, 23, 0), (2, 24, 0), (0, 0, 6), (2, 25, 0), (2, 26, 0), (0, 0, 60), (2, 27, 0)]), -- 18 Plan
  (3, 4, 4, [(2, 28, 0)]), -- 19 Plan.doors
  (0, 3, 3, [(2, 21, 0), (2, 22, 0), (0, 0, 13)]), -- 20 Lessons
  (1, 0, 13, [(0, 0, 15)]), -- 21 Lessons.knocks
  (1, 0, 13, [(0, 0, 1)]), -- 22 Lessons.opens
  (1, 0, 4, [(0, 0, 15)]), -- 23 Plan.houseSigns
  (1, 0, 4, [(0, 0, 15)]), -- 24 Plan.houseThere
  (1, 0, 6, [(0, 0, 9)]), -- 25 Plan.takes
  (1, 0, 6, [(0, 0, 63)]), -- 26 Plan.ahead
  (1, 0, 60, [(0, 0, 3)]), -- 27 Plan.taughtDoors
  (0, 0, 4, [(2, 20, 0), (0, 0, 2), (0, 0, 50), (0, (-1), 3)]), -- 28 Door
  (3, 5, 3, [(2, 31, 0)]), -- 29 DoorSchool.images
  (1, 3, 3, [(0, 0, 1)]), -- 30 DoorSchool.imaged
  (0, 4, 16, [(0, 0, 1601), (0, 0, 4), (0, (-1), 3), (0, 0, 4), (2, 19, 0), (2, 20, 0), (0, 0, 15), (0, 0, 15), (0, 0, 4), (2, 23, 0), (2, 24, 0), (0, 0, 6), (2, 25, 0), (2, 26, 0), (0, 0, 60), (2, 27, 0)]), -- 31 PlanI
  (3, 6, 4, [(2, 33, 0)]), -- 32 DoorSchool.slots
  (0, 7, 4, [(2, 34, 0), (0, 0, 1), (0, 0, 3), (0, 0, 60)]), -- 33 Slot
  (2, 1, 60, [(1, (-9223372036854775808), 9223372036854775807)]), -- 34 Slot.numbers
  (0, 11, 36, [(0, (-2147483648), 2147483647), (2, 36, 0), (2, 37, 0), (2, 38, 0), (2, 39, 0), (0, 0, 1600), (2, 40, 0), (0, 0, 1600), (0, 0, 1600), (0, 0, 1600), (0, 0, 4), (0, 0, 99999), (0, 0, 3), (0, (-1), 1600), (2, 41, 0), (2, 42, 0), (2, 43, 0), (2, 44, 0), (0, 0, 81), (2, 45, 0), (2, 46, 0), (0, 0, 17), (0, (-2147483648), 2147483647), (0, (-2147483648), 2147483647), (2, 47, 0), (2, 48, 0), (0, (-2147483648), 2147483647), (2, 49, 0), (2, 50, 0), (2, 51, 0), (2, 52, 0), (0, (-2147483648), 2147483647), (2, 53, 0), (2, 54, 0), (2, 55, 0), (2, 56, 0)]), -- 35 DoorSchoolModel
  (1, 0, 226, [(0, 0, 4), (0, 0, 3), (0, 0, 4), (0, 0, 12), (0, 0, 4), (0, 0, 6), (0, 0, 60), (0, 0, 1600), (0, 0, 15), (0, 0, 15), (0, 0, 2), (0, 0, 50), (0, 0, 12), (0, (-1), 3), (0, 0, 2), (0, 0, 50), (0, 0, 12), (0, (-1), 3), (0, 0, 2), (0, 0, 50), (0, 0, 12), (0, (-1), 3), (0, 0, 2), (0, 0, 50), (0, 0, 12), (0, (-1), 3), (0, 0, 15), (0, 0, 1), (0, 0, 15), (0, 0, 1), (0, 0, 15), (0, 0, 1), (0, 0, 15), (0, 0, 1), (0, 0, 15), (0, 0, 1), (0, 0, 15), (0, 0, 1), (0, 0, 15), (0, 0, 1), (0, 0, 15), (0, 0, 1), (0, 0, 15), (0, 0, 1), (0, 0, 15), (0, 0, 1), (0, 0, 15), (0, 0, 1), (0, 0, 15), (0, 0, 1), (0, 0, 15), (0, 0, 1), (0, 0, 15), (0, 0, 1), (0, 0, 15), (0, 0, 1), (0, 0, 15), (0, 0, 1), (0, 0, 15), (0, 0, 1), (0, 0, 15), (0, 0, 1), (0, 0, 15), (0, 0, 1), (0, 0, 15), (0, 0, 1), (0, 0, 15), (0, 0, 1), (0, 0, 15), (0, 0, 1), (0, 0, 15), (0, 0, 1), (0, 0, 15), (0, 0, 1), (0, 0, 15), (0, 0, 1), (0, 0, 15), (0, 0, 1), (0, 0, 15), (0, 0, 1), (0, 0, 15), (0, 0, 1), (0, 0, 15), (0, 0, 1), (0, 0, 15), (0, 0, 1), (0, 0, 15), (0, 0, 1), (0, 0, 15), (0, 0, 1), (0, 0, 15), (0, 0, 1), (0, 0, 15), (0, 0, 1), (0, 0, 15), (0, 0, 1), (0, 0, 15), (0, 0, 1), (0, 0, 15), (0, 0, 1), (0, 0, 15), (0, 0, 1), (0, 0, 15), (0, 0, 1), (0, 0, 15), (0, 0, 1), (0, 0, 15), (0, 0, 1), (0, 0, 15), (0, 0, 1), (0, 0, 15), (0, 0, 1), (0, 0, 15), (0, 0, 1), (0, 0, 15), (0, 0, 1), (0, 0, 15), (0, 0, 1), (0, 0, 15), (0, 0, 1), (0, 0, 15), (0, 0, 1), (0, 0, 15), (0, 0, 1), (0, 0, 15), (0, 0, 1), (0, 0, 15), (0, 0, 1), (0, 0, 15), (0, 0, 1), (0, 0, 15), (0, 0, 1), (0, 0, 15), (0, 0, 1), (0, 0, 15), (0, 0, 1), (0, 0, 15), (0, 0, 1), (0, 0, 15), (0, 0, 1), (0, 0, 15), (0, 0, 1), (0, 0, 15), (0, 0, 1), (0, 0, 15), (0, 0, 1), (0, 0, 15), (0, 0, 15), (0, 0, 15), (0, 0, 15), (0, 0, 15), (0, 0, 15), (0, 0, 15), (0, 0, 15), (0, 0, 9), (0, 0, 63), (0, 0, 9), (0, 0, 63), (0, 0, 9), (0, 0, 63), (0, 0, 9), (0, 0, 63), (0, 0, 9), (0, 0, 63), (0, 0, 9), (0, 0, 63), (0, 0, 3), (0, 0, 3), (0, 0, 3), (0, 0, 3), (0, 0, 3), (0, 0, 3), (0, 0, 3), (0, 0, 3), (0, 0, 3), (0, 0, 3), (0, 0, 3), (0, 0, 3), (0, 0, 3), (0, 0, 3), (0, 0, 3), (0, 0, 3), (0, 0, 3), (0, 0, 3), (0, 0, 3), (0, 0, 3), (0, 0, 3), (0, 0, 3), (0, 0, 3), (0, 0, 3), (0, 0, 3), (0, 0, 3), (0, 0, 3), (0, 0, 3), (0, 0, 3), (0, 0, 3), (0, 0, 3), (0, 0, 3), (0, 0, 3), (0, 0, 3), (0, 0, 3), (0, 0, 3), (0, 0, 3), (0, 0, 3), (0, 0, 3), (0, 0, 3), (0, 0, 3), (0, 0, 3), (0, 0, 3), (0, 0, 3), (0, 0, 3), (0, 0, 3), (0, 0, 3), (0, 0, 3), (0, 0, 3), (0, 0, 3), (0, 0, 3), (0, 0, 3), (0, 0, 3), (0, 0, 3), (0, 0, 3), (0, 0, 3), (0, 0, 3), (0, 0, 3), (0, 0, 3), (0, 0, 3)]), -- 36 DoorSchoolModel.world
  (1, 0, 678, [(0, 0, 4), (0, 0, 3), (0, 0, 4), (0, 0, 12), (0, 0, 4), (0, 0, 6), (0, 0, 60), (0, 0, 1600), (0, 0, 15), (0, 0, 15), (0, 0, 2), (0, 0, 50), (0, 0, 12), (0, (-1), 3), (0, 0, 2), (0, 0, 50), (0, 0, 12), (0, (-1), 3), (0, 0, 2), (0, 0, 50), (0, 0, 12), (0, (-1), 3), (0, 0, 2), (0, 0, 50), (0, 0, 12), (0, (-1), 3), (0, 0, 15), (0, 0, 1), (0, 0, 15), (0, 0, 1), (0, 0, 15), (0, 0, 1), (0, 0, 15), (0, 0, 1), (0, 0, 15), (0, 0, 1), (0, 0, 15), (0, 0, 1), (0, 0, 15), (0, 0, 1), (0, 0, 15), (0, 0, 1), (0, 0, 15), (0, 0, 1), (0, 0, 15), (0, 0, 1), (0, 0, 15), (0, 0, 1), (0, 0, 15), (0, 0, 1), (0, 0, 15), (0, 0, 1), (0, 0, 15), (0, 0, 1), (0, 0, 15), (0, 0, 1), (0, 0, 15), (0, 0, 1), (0, 0, 15), (0, 0, 1), (0, 0, 15), (0, 0, 1), (0, 0, 15), (0, 0, 1), (0, 0, 15), (0, 0, 1), (0, 0, 15), (0, 0, 1), (0, 0, 15), (0, 0, 1), (0, 0, 15), (0, 0, 1), (0, 0, 15), (0, 0, 1), (0, 0, 15), (0, 0, 1), (0, 0, 15), (0, 0, 1), (0, 0, 15), (0, 0, 1), (0, 0, 15), (0, 0, 1), (0, 0, 15), (0, 0, 1), (0, 0, 15), (0, 0, 1), (0, 0, 15), (0, 0, 1), (0, 0, 15), (0, 0, 1), (0, 0, 15), (0, 0, 1), (0, 0, 15), (0, 0, 1), (0, 0, 15), (0, 0, 1), (0, 0, 15), (0, 0, 1), (0, 0, 15), (0, 0, 1), (0, 0, 15), (0, 0, 1), (0, 0, 15), (0, 0, 1), (0, 0, 15), (0, 0, 1), (0, 0, 15), (0, 0, 1), (0, 0, 15), (0, 0, 1), (0, 0, 15), (0, 0, 1), (0, 0, 15), (0, 0, 1), (0, 0, 15), (0, 0, 1), (0, 0, 15), (0, 0, 1), (0, 0, 15), (0, 0, 1), (0, 0, 15), (0, 0, 1), (0, 0, 15), (0, 0, 1), (0, 0, 15), (0, 0, 1), (0, 0, 15), (0, 0, 1), (0, 0, 15), (0, 0, 1), (0, 0, 15), (0, 0, 1), (0, 0, 15), (0, 0, 1), (0, 0, 15), (0, 0, 1), (0, 0, 15), (0, 0, 1), (0, 0, 15), (0, 0, 1), (0, 0, 15), (0, 0, 1), (0, 0, 15), (0, 0, 1), (0, 0, 15), (0, 0, 1), (0, 0, 15), (0, 0, 15), (0, 0, 15), (0, 0, 15), (0, 0, 15), (0, 0, 15), (0, 0, 15), (0, 0, 15), (0, 0, 9), (0, 0, 63), (0, 0, 9), (0, 0, 63), (0, 0, 9), (0, 0, 63), (0, 0, 9), (0, 0, 63), (0, 0, 9), (0, 0, 63), (0, 0, 9), (0, 0, 63), (0, 0, 3), (0, 0, 3), (0, 0, 3), (0, 0, 3), (0, 0, 3), (0, 0, 3), (0, 0, 3), (0, 0, 3), (0, 0, 3), (0, 0, 3), (0, 0, 3), (0, 0, 3), (0, 0, 3), (0, 0, 3), (0, 0, 3), (0, 0, 3), (0, 0, 3), (0, 0, 3), (0, 0, 3), (0, 0, 3), (0, 0, 3), (0, 0, 3), (0, 0, 3), (0, 0, 3), (0, 0, 3), (0, 0, 3), (0, 0, 3), (0, 0, 3), (0, 0, 3), (0, 0, 3), (0, 0, 3), (0, 0, 3), (0, 0, 3), (0, 0, 3), (0, 0, 3), (0, 0, 3), (0, 0, 3), (0, 0, 3), (0, 0, 3), (0, 0, 3), (0, 0, 3), (0, 0, 3), (0, 0, 3), (0, 0, 3), (0, 0, 3), (0, 0, 3), (0, 0, 3), (0, 0, 3), (0, 0, 3), (0, 0, 3), (0, 0, 3), (0, 0, 3), (0, 0, 3), (0, 0, 3), (0, 0, 3), (0, 0, 3), (0, 0, 3), (0, 0, 3), (0, 0, 3), (0, 0, 3), (0, 0, 4), (0, 0, 3), (0, 0, 4), (0, 0, 12), (0, 0, 4), (0, 0, 6), (0, 0, 60), (0, 0, 1600), (0, 0, 15), (0, 0, 15), (0, 0, 2), (0, 0, 50), (0, 0, 12), (0, (-1), 3), (0, 0, 2), (0, 0, 50), (0, 0, 12), (0, (-1), 3), (0, 0, 2), (0, 0, 50), (0, 0, 12), (0, (-1), 3), (0, 0, 2), (0, 0, 50), (0, 0, 12), (0, (-1), 3), (0, 0, 15), (0, 0, 1), (0, 0, 15), (0, 0, 1), (0, 0, 15), (0, 0, 1), (0, 0, 15), (0, 0, 1), (0, 0, 15), (0, 0, 1), (0, 0, 15), (0, 0, 1), (0, 0, 15), (0, 0, 1), (0, 0, 15), (0, 0, 1), (0, 0, 15), (0, 0, 1), (0, 0, 15), (0, 0, 1), (0, 0, 15), (0, 0, 1), (0, 0, 15), (0, 0, 1), (0, 0, 15), (0, 0, 1), (0, 0, 15), (0, 0, 1), (0, 0, 15), (0, 0, 1), (0, 0, 15), (0, 0, 1), (0, 0, 15), (0, 0, 1), (0, 0, 15), (0, 0, 1), (0, 0, 15), (0, 0, 1), (0, 0, 15), (0, 0, 1), (0, 0, 15), (0, 0, 1), (0, 0, 15), (0, 0, 1), (0, 0, 15), (0, 0, 1), (0, 0, 15), (0, 0, 1), (0, 0, 15), (0, 0, 1), (0, 0, 15), (0, 0, 1), (0, 0, 15), (0, 0, 1), (0, 0, 15), (0, 0, 1), (0, 0, 15), (0, 0, 1), (0, 0, 15), (0, 0, 1), (0, 0, 15), (0, 0, 1), (0, 0, 15), (0, 0, 1), (0, 0, 15), (0, 0, 1), (0, 0, 15), (0, 0, 1), (0, 0, 15), (0, 0, 1), (0, 0, 15), (0, 0, 1), (0, 0, 15), (0, 0, 1), (0, 0, 15), (0, 0, 1), (0, 0, 15), (0, 0, 1), (0, 0, 15), (0, 0, 1), (0, 0, 15), (0, 0, 1), (0, 0, 15), (0, 0, 1), (0, 0, 15), (0, 0, 1), (0, 0, 15), (0, 0, 1), (0, 0, 15), (0, 0, 1), (0, 0, 15), (0, 0, 1), (0, 0, 15), (0, 0, 1), (0, 0, 15), (0, 0, 1), (0, 0, 15), (0, 0, 1), (0, 0, 15), (0, 0, 1), (0, 0, 15), (0, 0, 1), (0, 0, 15), (0, 0, 1), (0, 0, 15), (0, 0, 1), (0, 0, 15), (0, 0, 1), (0, 0, 15), (0, 0, 1), (0, 0, 15), (0, 0, 1), (0, 0, 15), (0, 0, 1), (0, 0, 15), (0, 0, 1), (0, 0, 15), (0, 0, 1), (0, 0, 15), (0, 0, 1), (0, 0, 15), (0, 0, 15), (0, 0, 15), (0, 0, 15), (0, 0, 15), (0, 0, 15), (0, 0, 15), (0, 0, 15), (0, 0, 9), (0, 0, 63), (0, 0, 9), (0, 0, 63), (0, 0, 9), (0, 0, 63), (0, 0, 9), (0, 0, 63), (0, 0, 9), (0, 0, 63), (0, 0, 9), (0, 0, 63), (0, 0, 3), (0, 0, 3), (0, 0, 3), (0, 0, 3), (0, 0, 3), (0, 0, 3), (0, 0, 3), (0, 0, 3), (0, 0, 3), (0, 0, 3), (0, 0, 3), (0, 0, 3), (0, 0, 3), (0, 0, 3), (0, 0, 3), (0, 0, 3), (0, 0, 3), (0, 0, 3), (0, 0, 3), (0, 0, 3), (0, 0, 3), (0, 0, 3), (0, 0, 3), (0, 0, 3), (0, 0, 3), (0, 0, 3), (0, 0, 3), (0, 0, 3), (0, 0, 3), (0, 0, 3), (0, 0, 3), (0, 0, 3), (0, 0, 3), (0, 0, 3), (0, 0, 3), (0, 0, 3), (0, 0, 3), (0, 0, 3), (0, 0, 3), (0, 0, 3), (0, 0, 3), (0, 0, 3), (0, 0, 3), (0, 0, 3), (0, 0, 3), (0, 0, 3), (0, 0, 3), (0, 0, 3), (0, 0, 3), (0, 0, 3), (0, 0, 3), (0, 0, 3), (0, 0, 3), (0, 0, 3), (0, 0, 3), (0, 0, 3), (0, 0, 3), (0, 0, 3), (0, 0, 3), (0, 0, 3), (0, 0, 4), (0, 0, 3), (0, 0, 4), (0, 0, 12), (0, 0, 4), (0, 0, 6), (0, 0, 60), (0, 0, 1600), (0, 0, 15), (0, 0, 15), (0, 0, 2), (0, 0, 50), (0, 0, 12), (0, (-1), 3), (0, 0, 2), (0, 0, 50), (0, 0, 12), (0, (-1), 3), (0, 0, 2), (0, 0, 50), (0, 0, 12), (0, (-1), 3), (0, 0, 2), (0, 0, 50), (0, 0, 12), (0, (-1), 3), (0, 0, 15), (0, 0, 1), (0, 0, 15), (0, 0, 1), (0, 0, 15), (0, 0, 1), (0, 0, 15), (0, 0, 1), (0, 0, 15), (0, 0, 1), (0, 0, 15), (0, 0, 1), (0, 0, 15), (0, 0, 1), (0, 0, 15), (0, 0, 1), (0, 0, 15), (0, 0, 1), (0, 0, 15), (0, 0, 1), (0, 0, 15), (0, 0, 1), (0, 0, 15), (0, 0, 1), (0, 0, 15), (0, 0, 1), (0, 0, 15), (0, 0, 1), (0, 0, 15), (0, 0, 1), (0, 0, 15), (0, 0, 1), (0, 0, 15), (0, 0, 1), (0, 0, 15), (0, 0, 1), (0, 0, 15), (0, 0, 1), (0, 0, 15), (0, 0, 1), (0, 0, 15), (0, 0, 1), (0, 0, 15), (0, 0, 1), (0, 0, 15), (0, 0, 1), (0, 0, 15), (0, 0, 1), (0, 0, 15), (0, 0, 1), (0, 0, 15), (0, 0, 1), (0, 0, 15), (0, 0, 1), (0, 0, 15), (0, 0, 1), (0, 0, 15), (0, 0, 1), (0, 0, 15), (0, 0, 1), (0, 0, 15), (0, 0, 1), (0, 0, 15), (0, 0, 1), (0, 0, 15), (0, 0, 1), (0, 0, 15), (0, 0, 1), (0, 0, 15), (0, 0, 1), (0, 0, 15), (0, 0, 1), (0, 0, 15), (0, 0, 1), (0, 0, 15), (0, 0, 1), (0, 0, 15), (0, 0, 1), (0, 0, 15), (0, 0, 1), (0, 0, 15), (0, 0, 1), (0, 0, 15), (0, 0, 1), (0, 0, 15), (0, 0, 1), (0, 0, 15), (0, 0, 1), (0, 0, 15), (0, 0, 1), (0, 0, 15), (0, 0, 1), (0, 0, 15), (0, 0, 1), (0, 0, 15), (0, 0, 1), (0, 0, 15), (0, 0, 1), (0, 0, 15), (0, 0, 1), (0, 0, 15), (0, 0, 1), (0, 0, 15), (0, 0, 1), (0, 0, 15), (0, 0, 1), (0, 0, 15), (0, 0, 1), (0, 0, 15), (0, 0, 1), (0, 0, 15), (0, 0, 1), (0, 0, 15), (0, 0, 1), (0, 0, 15), (0, 0, 1), (0, 0, 15), (0, 0, 1), (0, 0, 15), (0, 0, 1), (0, 0, 15), (0, 0, 15), (0, 0, 15), (0, 0, 15), (0, 0, 15), (0, 0, 15), (0, 0, 15), (0, 0, 15), (0, 0, 9), (0, 0, 63), (0, 0, 9), (0, 0, 63), (0, 0, 9), (0, 0, 63), (0, 0, 9), (0, 0, 63), (0, 0, 9), (0, 0, 63), (0, 0, 9), (0, 0, 63), (0, 0, 3), (0, 0, 3), (0, 0, 3), (0, 0, 3), (0, 0, 3), (0, 0, 3), (0, 0, 3), (0, 0, 3), (0, 0, 3), (0, 0, 3), (0, 0, 3), (0, 0, 3), (0, 0, 3), (0, 0, 3), (0, 0, 3), (0, 0, 3), (0, 0, 3), (0, 0, 3), (0, 0, 3), (0, 0, 3), (0, 0, 3), (0, 0, 3), (0, 0, 3), (0, 0, 3), (0, 0, 3), (0, 0, 3), (0, 0, 3), (0, 0, 3), (0, 0, 3), (0, 0, 3), (0, 0, 3), (0, 0, 3), (0, 0, 3), (0, 0, 3), (0, 0, 3), (0, 0, 3), (0, 0, 3), (0, 0, 3), (0, 0, 3), (0, 0, 3), (0, 0, 3), (0, 0, 3), (0, 0, 3), (0, 0, 3), (0, 0, 3), (0, 0, 3), (0, 0, 3), (0, 0, 3), (0, 0, 3), (0, 0, 3), (0, 0, 3), (0, 0, 3), (0, 0, 3), (0, 0, 3), (0, 0, 3), (0, 0, 3), (0, 0, 3), (0, 0, 3), (0, 0, 3), (0, 0, 3)]), -- 37 DoorSchoolModel.images
  (1, 3, 3, [(0, 0, 1)]), -- 38 DoorSchoolModel.hasImage
  (1, 2, 1600, [(0, (-128), 127)]), -- 39 DoorSchoolModel.tape
  (1, 0, 5, [(0, (-2147483648), 2147483647)]), -- 40 DoorSchoolModel.five
  (1, 0, 226, [(0, 0, 4), (0, 0, 3), (0, 0, 4), (0, 0, 12), (0, 0, 4), (0, 0, 6), (0, 0, 60), (0, 0, 1600), (0, 0, 15), (0, 0, 15), (0, 0, 2), (0, 0, 50), (0, 0, 12), (0, (-1), 3), (0, 0, 2), (0, 0, 50), (0, 0, 12), (0, (-1), 3), (0, 0, 2), (0, 0, 50), (0, 0, 12), (0, (-1), 3), (0, 0, 2), (0, 0, 50), (0, 0, 12), (0, (-1), 3), (0, 0, 15), (0, 0, 1), (0, 0, 15), (0, 0, 1), (0, 0, 15), (0, 0, 1), (0, 0, 15), (0, 0, 1), (0, 0, 15), (0, 0, 1), (0, 0, 15), (0, 0, 1), (0, 0, 15), (0, 0, 1), (0, 0, 15), (0, 0, 1), (0, 0, 15), (0, 0, 1), (0, 0, 15), (0, 0, 1), (0, 0, 15), (0, 0, 1), (0, 0, 15), (0, 0, 1), (0, 0, 15), (0, 0, 1), (0, 0, 15), (0, 0, 1), (0, 0, 15), (0, 0, 1), (0, 0, 15), (0, 0, 1), (0, 0, 15), (0, 0, 1), (0, 0, 15), (0, 0, 1), (0, 0, 15), (0, 0, 1), (0, 0, 15), (0, 0, 1), (0, 0, 15), (0, 0, 1), (0, 0, 15), (0, 0, 1), (0, 0, 15), (0, 0, 1), (0, 0, 15), (0, 0, 1), (0, 0, 15), (0, 0, 1), (0, 0, 15), (0, 0, 1), (0, 0, 15), (0, 0, 1), (0, 0, 15), (0, 0, 1), (0, 0, 15), (0, 0, 1), (0, 0, 15), (0, 0, 1), (0, 0, 15), (0, 0, 1), (0, 0, 15), (0, 0, 1), (0, 0, 15), (0, 0, 1), (0, 0, 15), (0, 0, 1), (0, 0, 15), (0, 0, 1), (0, 0, 15), (0, 0, 1), (0, 0, 15), (0, 0, 1), (0, 0, 15), (0, 0, 1), (0, 0, 15), (0, 0, 1), (0, 0, 15), (0, 0, 1), (0, 0, 15), (0, 0, 1), (0, 0, 15), (0, 0, 1), (0, 0, 15), (0, 0, 1), (0, 0, 15), (0, 0, 1), (0, 0, 15), (0, 0, 1), (0, 0, 15), (0, 0, 1), (0, 0, 15), (0, 0, 1), (0, 0, 15), (0, 0, 1), (0, 0, 15), (0, 0, 1), (0, 0, 15), (0, 0, 1), (0, 0, 15), (0, 0, 1), (0, 0, 15), (0, 0, 1), (0, 0, 15), (0, 0, 1), (0, 0, 15), (0, 0, 1), (0, 0, 15), (0, 0, 1), (0, 0, 15), (0, 0, 1), (0, 0, 15), (0, 0, 1), (0, 0, 15), (0, 0, 1), (0, 0, 15), (0, 0, 1), (0, 0, 15), (0, 0, 1), (0, 0, 15), (0, 0, 15), (0, 0, 15), (0, 0, 15), (0, 0, 15), (0, 0, 15), (0, 0, 15), (0, 0, 15), (0, 0, 9), (0, 0, 63), (0, 0, 9), (0, 0, 63), (0, 0, 9), (0, 0, 63), (0, 0, 9), (0, 0, 63), (0, 0, 9), (0, 0, 63), (0, 0, 9), (0, 0, 63), (0, 0, 3), (0, 0, 3), (0, 0, 3), (0, 0, 3), (0, 0, 3), (0, 0, 3), (0, 0, 3), (0, 0, 3), (0, 0, 3), (0, 0, 3), (0, 0, 3), (0, 0, 3), (0, 0, 3), (0, 0, 3), (0, 0, 3), (0, 0, 3), (0, 0, 3), (0, 0, 3), (0, 0, 3), (0, 0, 3), (0, 0, 3), (0, 0, 3), (0, 0, 3), (0, 0, 3), (0, 0, 3), (0, 0, 3), (0, 0, 3), (0, 0, 3), (0, 0, 3), (0, 0, 3), (0, 0, 3), (0, 0, 3), (0, 0, 3), (0, 0, 3), (0, 0, 3), (0, 0, 3), (0, 0, 3), (0, 0, 3), (0, 0, 3), (0, 0, 3), (0, 0, 3), (0, 0, 3), (0, 0, 3), (0, 0, 3), (0, 0, 3), (0, 0, 3), (0, 0, 3), (0, 0, 3), (0, 0, 3), (0, 0, 3), (0, 0, 3), (0, 0, 3), (0, 0, 3), (0, 0, 3), (0, 0, 3), (0, 0, 3), (0, 0, 3), (0, 0, 3), (0, 0, 3), (0, 0, 3)]), -- 41 DoorSchoolModel.fresh
  (1, 0, 81, [(0, 0, 15)]), -- 42 DoorSchoolModel.ruleSigns
  (1, 0, 81, [(0, 0, 15)]), -- 43 DoorSchoolModel.ruleThere
  (1, 0, 81, [(0, (-2147483648), 2147483647)]), -- 44 DoorSchoolModel.ruleDeeds
  (1, 0, 17, [(0, 0, 15)]), -- 45 DoorSchoolModel.learnKnock
  (1, 0, 17, [(0, 0, 1)]), -- 46 DoorSchoolModel.learnOpen
  (1, 0, 4, [(0, 0, 3)]), -- 47 DoorSchoolModel.hungNow
  (1, 0, 4, [(0, 0, 3)]), -- 48 DoorSchoolModel.hungBest
  (1, 0, 6, [(0, 0, 111)]), -- 49 DoorSchoolModel.begin
  (1, 0, 120, [(0, (-2147483648), 2147483647)]), -- 50 DoorSchoolModel.busy
  (1, 0, 6, [(0, 0, 54)]), -- 51 DoorSchoolModel.fixed
  (1, 0, 6, [(0, (-2147483648), 2147483647)]), -- 52 DoorSchoolModel.order
  (1, 0, 4, [(0, (-1), 60)]), -- 53 DoorSchoolModel.many
  (1, 0, 4, [(0, 0, 3)]), -- 54 DoorSchoolModel.width
  (2, 1, 240, [(1, (-9223372036854775808), 9223372036854775807)]), -- 55 DoorSchoolModel.numbers
  (2, 1, 60, [(1, (-9223372036854775808), 9223372036854775807)])] -- 56 DoorSchoolModel.moving
def NCEL : Nat := 181
def TG (a : Nat) : Nat := TAGS.getD a 999
def TY (g : Nat) : Nat × Nat × Nat × List (Nat × Int × Int) := TT.getD g (9, 0, 0, [])
def KD (g : Nat) : Nat := (TY g).1
def CL (g : Nat) : Nat := (TY g).2.1
def LN (g : Nat) : Nat := (TY g).2.2.1
/-- the type of a place: a row with one type has it at all places -/
def pick (k : Nat) (l : List (Nat × Int × Int)) (j : Nat) : Nat × Int × Int := match k, l with
  | 0, l => l.getD j (9, 0, 0)
  | _, [t] => t
  | _, l => l.getD j (9, 0, 0)
def FT (g j : Nat) : Nat × Int × Int := pick (KD g) (TY g).2.2.2 j
def SL (g j : Nat) : Nat := if KD g = 0 then j else 0
def vOK (t : Nat × Int × Int) (v : Value) : Prop := match v with
  | .int x => t.1 = 0 ∧ t.2.1 ≤ x.toInt ∧ x.toInt ≤ t.2.2
  | .long x => t.1 = 1 ∧ t.2.1 ≤ x.toInt ∧ x.toInt ≤ t.2.2
  | .ref a => t.1 = 2 ∧ (TG a : Int) = t.2.1
  | _ => False
abbrev SG : Type := Nat → List Value
/-- (a name that nothing unfolds) -/
theorem HPex : ∃ f : SG → AH, ∀ σ, f σ = SHP.mapIdx (fun i s => (s.1, s.2, σ i)) := ⟨_, fun _ => rfl⟩
noncomputable def HP : SG → AH := Classical.choose HPex
theorem HP_eq (σ : SG) : HP σ = SHP.mapIdx (fun i s => (s.1, s.2, σ i)) := Classical.choose_spec HPex σ
def pt (σ : SG) (a : Nat) (vs : List Value) : SG := fun i => if i = a then vs else σ i
theorem HP_at (σ : SG) (i : Nat) : (HP σ)[i]? = (SHP[i]?).map (fun s => (s.1, s.2, σ i)) := by
  rw [HP_eq, List.getElem?_mapIdx]
theorem HP_get {σ : SG} {a k c : Nat} (h : SHP[a]? = some (k, c)) : (HP σ)[a]? = some (k, c, σ a) := by
  rw [HP_at, h]; rfl
theorem HP_len (σ : SG) : (HP σ).length = SHP.length := by rw [HP_eq, List.length_mapIdx]
theorem HP_set {σ : SG} {a k c : Nat} {vs : List Value} (h : SHP[a]? = some (k, c)) : (HP σ).set a (k, c, vs) = HP (pt σ a vs) := by
  apply List.ext_getElem?
  intro j
  rw [List.getElem?_set]
  by_cases hj : a = j
  · subst hj
    have hl : a < SHP.length := (List.getElem?_eq_some_iff.mp h).1
    rw [if_pos rfl, HP_get h, HP_len, if_pos hl]
    unfold pt
    rw [if_pos rfl]
  · rw [if_neg hj, HP_at, HP_at]
    unfold pt
    rw [if_neg (fun z => hj z.symm)]
def okSh : Bool := (List.range NCEL).all (fun a => decide (SHP[a]? = some (KD (TG a), CL (TG a))))
theorem okSh_ok : okSh = true := by decide +kernel
theorem TG_lt {a g : Nat} (h : TG a = g) (hg : g < 900) : a < NCEL := by
  rcases Nat.lt_or_ge a NCEL with z | z
  · exact z
  · exfalso
    have e : TAGS.length = NCEL := by decide +kernel
    have : TG a = 999 := by
      unfold TG
      rw [List.getD_eq_getElem?_getD, List.getElem?_eq_none (by omega)]
      rfl
    omega
theorem shp {a g : Nat} (h : TG a = g) (hg : g < 900) : SHP[a]? = some (KD g, CL g) := by
  have h1 := TG_lt h hg
  have h2 := List.all_eq_true.mp okSh_ok a (List.mem_range.mpr h1)
  rw [← h]
  exact of_decide_eq_true h2
/-- the contents are of their types -/
def WT (σ : SG) : Prop := ∀ a, a < NCEL → (σ a).length = LN (TG a) ∧ ∀ j v, (σ a)[j]? = some v → vOK (FT (TG a) j) v
theorem WT_len {σ : SG} {a g : Nat} (hσ : WT σ) (h : TG a = g) (hg : g < 900) : (σ a).length = LN g := by
  rw [← h]; exact (hσ a (TG_lt h hg)).1
theorem WT_at {σ : SG} {a g j : Nat} (hσ : WT σ) (h : TG a = g) (hg : g < 900) (hj : j < LN g) : ∃ v, (σ a)[j]? = some v ∧ vOK (FT g j) v := by
  have h1 := WT_len hσ h hg
  have h2 : (σ a)[j]? = some ((σ a)[j]'(by omega)) := List.getElem?_eq_getElem (by omega)
  generalize ((σ a)[j]'(by omega)) = v at h2
  refine ⟨v, h2, ?_⟩
  rw [← h]
  exact (hσ a (TG_lt h hg)).2 j _ h2
theorem WT_pt {σ : SG} {a g j : Nat} {v : Value} (hσ : WT σ) (h : TG a = g) (hv : vOK (FT g j) v) : WT (pt σ a ((σ a).set j v)) := by
  intro b hb
  unfold pt
  by_cases e : b = a
  · subst e
    rw [if_pos rfl, List.length_set]
    refine ⟨(hσ b hb).1, fun i w hw => ?_⟩
    rw [List.getElem?_set] at hw
    by_cases hij : j = i
    · subst hij
      rw [if_pos rfl] at hw
      split at hw
      · cases hw; rw [h]; exact hv
      · cases hw
    · rw [if_neg hij] at hw
      exact (hσ b hb).2 i w hw
  · rw [if_neg e]; exact hσ b hb
/-- what a run writes: places of a tag (a row's places are one) -/
def Fr (W : List (Nat × Nat)) (σ σ' : SG) : Prop := ∀ b i, W.contains (TG b, SL (TG b) i) = false → (σ' b)[i]? = (σ b)[i]?
theorem Fr_rfl {W : List (Nat × Nat)} {σ : SG} : Fr W σ σ := fun _ _ _ => rfl
theorem Fr_pt {W : List (Nat × Nat)} {σ0 σ : SG} {a g j : Nat} {v : Value} (hF : Fr W σ0 σ) (h : TG a = g) (hW : W.contains (g, SL g j) = true) : Fr W σ0 (pt σ a ((σ a).set j v)) := by
  intro b i hb
  rw [← hF b i hb]
  unfold pt
  by_cases e : b = a
  · subst e
    rw [if_pos rfl, List.getElem?_set]
    by_cases hij : j = i
    · subst hij
      rw [h, hW] at hb
      cases hb
    · rw [if_neg hij]
  · rw [if_neg e]
theorem Fr_trans {W W' : List (Nat × Nat)} {σ0 σ σ' : SG} (h1 : Fr W σ0 σ) (h2 : Fr W' σ σ') (hs : W'.all (fun q => W.contains q) = true) : Fr W σ0 σ' := by
  intro b i hb
  rw [← h1 b i hb]
  refine h2 b i ?_
  cases hc : W'.contains (TG b, SL (TG b) i) with
  | false => rfl
  | true =>
    have hm := List.contains_iff_mem.mp hc
    have := List.all_eq_true.mp hs _ hm
    rw [this] at hb
    cases hb
theorem pt_at {σ : SG} {a j : Nat} {v : Value} (hj : j < (σ a).length) : (pt σ a ((σ a).set j v) a)[j]? = some v := by
  unfold pt
  rw [if_pos rfl, List.getElem?_set, if_pos rfl, if_pos hj]
theorem pt_ne {σ : SG} {a j b i : Nat} {v : Value} (h : b ≠ a ∨ i ≠ j) : (pt σ a ((σ a).set j v) b)[i]? = (σ b)[i]? := by
  unfold pt
  by_cases e : b = a
  · subst e
    rw [if_pos rfl, List.getElem?_set, if_neg (by omega)]
  · rw [if_neg e]
/-! RUNS TO THE END OF A METHOD -/
abbrev PO : Type := Option Value → SG → Prop
def En (fr lo : Nat) (scr : AS) (F : MR) (P : PO) (pc : Nat) (lv : ALv) (st : List Value) (σ : SG) : Prop := ∃ v σ', Go MT fr lo scr F pc lv st (HP σ) (v, HP σ') ∧ P v σ'
section EN
variable {fr lo : Nat} {scr : AS} {F : MR} {P : PO} {pc pc' len tgt : Nat} {i : Instr} {lv lv' : ALv} {st st' r : List Value} {σ σ0 : SG} {W : List (Nat × Nat)}
theorem En_Ps (n : Nat) (hs : pst F scr (HP σ) n pc lv st = some (pc', lv', st')) (k : En fr lo scr F P pc' lv' st' σ) : En fr lo scr F P pc lv st σ := by
  obtain ⟨v, σ', g, hp⟩ := k
  exact ⟨v, σ', Go_Ps n hs g, hp⟩
theorem En_P1 (hf : fc F pc = some (i, len, tgt)) (hk : ikind i = 0) (hs : stpP F scr i tgt pc lv st (HP σ) = some (pc', lv', st')) (k : En fr lo scr F P pc' lv' st' σ) : En fr lo scr F P pc lv st σ :=
  En_Ps 1 (oB_mk hf (oC_mk (by rw [hk]; rfl) (oB_mk hs rfl))) k
theorem En_ret {v : Option Value} (hf : fc F pc = some (i, len, tgt)) (hk : ikind i = 4) (hs : doRet F i st (HP σ) = some (v, HP σ)) (hp : P v σ) : En fr lo scr F P pc lv st σ := ⟨v, σ, Go_ret hf hk hs, hp⟩
/-! branches -/
theorem En_br {c : Prop} {dc : Decidable c} {a b : Nat} (hf : fc F pc = some (i, len, tgt)) (hk : ikind i = 0) (hs : stpP F scr i tgt pc lv st (HP σ) = jmp (@decide c dc) a b lv' r) (k1 : c → En fr lo scr F P a lv' r σ) (k2 : ¬ c → En fr lo scr F P b lv' r σ) : En fr lo scr F P pc lv st σ := by
  cases dc with
  | isTrue h => exact En_P1 hf hk (by rw [hs]; rfl) (k1 h)
  | isFalse h => exact En_P1 hf hk (by rw [hs]; rfl) (k2 h)
theorem En_icLt {x y : Int32} {X Y : Int} (o : Int) (hX : x.toInt = X) (hY : y.toInt = Y) (hf : fc F pc = some (.if_icmp .lt o, len, tgt)) (k1 : X < Y → En fr lo scr F P tgt lv r σ) (k2 : Y ≤ X → En fr lo scr F P (pc + 3) lv r σ) : En fr lo scr F P pc lv (.int y :: .int x :: r) σ :=
  En_br (c := x < y) hf rfl rfl (fun h => k1 (by have := Int32.lt_iff_toInt_lt.mp h; omega)) (fun h => k2 (by have : ¬ x.toInt < y.toInt := fun z => h (Int32.lt_iff_toInt_lt.mpr z); omega))
theorem En_icGe {x y : Int32} {X Y : Int} (o : Int) (hX : x.toInt = X) (hY : y.toInt = Y) (hf : fc F pc = some (.if_icmp .ge o, len, tgt)) (k1 : Y ≤ X → En fr lo scr F P tgt lv r σ) (k2 : X < Y → En fr lo scr F P (pc + 3) lv r σ) : En fr lo scr F P pc lv (.int y :: .int x :: r) σ :=
  En_br (c := y ≤ x) hf rfl rfl (fun h => k1 (by have := Int32.le_iff_toInt_le.mp h; omega)) (fun h => k2 (by have : ¬ y.toInt ≤ x.toInt := fun z => h (Int32.le_iff_toInt_le.mpr z); omega))
theorem En_icGt {x y : Int32} {X Y : Int} (o : Int) (hX : x.toInt = X) (hY : y.toInt = Y) (hf : fc F pc = some (.if_icmp .gt o, len, tgt)) (k1 : Y < X → En fr lo scr F P tgt lv r σ) (k2 : X ≤ Y → En fr lo scr F P (pc + 3) lv r σ) : En fr lo scr F P pc lv (.int y :: .int x :: r) σ :=
  En_br (c := y < x) hf rfl rfl (fun h => k1 (by have := Int32.lt_iff_toInt_lt.mp h; omega)) (fun h => k2 (by have : ¬ y.toInt < x.toInt := fun z => h (Int32.lt_iff_toInt_lt.mpr z); omega))
theorem En_icLe {x y : Int32} {X Y : Int} (o : Int) (hX : x.toInt = X) (hY : y.toInt = Y) (hf : fc F pc = some (.if_icmp .le o, len, tgt)) (k1 : X ≤ Y → En fr lo scr F P tgt lv r σ) (k2 : Y < X → En fr lo scr F P (pc + 3) lv r σ) : En fr lo scr F P pc lv (.int y :: .int x :: r) σ :=
  En_br (c := x ≤ y) hf rfl rfl (fun h => k1 (by have := Int32.le_iff_toInt_le.mp h; omega)) (fun h => k2 (by have : ¬ x.toInt ≤ y.toInt := fun z => h (Int32.le_iff_toInt_le.mpr z); omega))
theorem En_icEq {x y : Int32} {X Y : Int} (o : Int) (hX : x.toInt = X) (hY : y.toInt = Y) (hf : fc F pc = some (.if_icmp .eq o, len, tgt)) (k1 : X = Y → En fr lo scr F P tgt lv r σ) (k2 : X ≠ Y → En fr lo scr F P (pc + 3) lv r σ) : En fr lo scr F P pc lv (.int y :: .int x :: r) σ :=
  En_br (c := x = y) hf rfl rfl (fun h => k1 (by rw [h] at hX; omega)) (fun h => k2 (by have : ¬ x.toInt = y.toInt := fun z => h (Int32.toInt_inj.mp z); omega))
theorem En_icNe {x y : Int32} {X Y : Int} (o : Int) (hX : x.toInt = X) (hY : y.toInt = Y) (hf : fc F pc = some (.if_icmp .ne o, len, tgt)) (k1 : X ≠ Y → En fr lo scr F P tgt lv r σ) (k2 : X = Y → En fr lo scr F P (pc + 3) lv r σ) : En fr lo scr F P pc lv (.int y :: .int x :: r) σ :=
  En_br (c := ¬ x = y) hf rfl rfl (fun h => k1 (by have : ¬ x.toInt = y.toInt := fun z => h (Int32.toInt_inj.mp z); omega)) (fun h => k2 (by have h2 : x = y := Decidable.of_not_not h; rw [h2] at hX; omega))
theorem z32 : (0 : Int32).toInt = 0 := by decide
theorem En_iLt {x : Int32} {X : Int} (o : Int) (hX : x.toInt = X) (hf : fc F pc = some (.ifCond .lt o, len, tgt)) (k1 : X < 0 → En fr lo scr F P tgt lv r σ) (k2 : 0 ≤ X → En fr lo scr F P (pc + 3) lv r σ) : En fr lo scr F P pc lv (.int x :: r) σ :=
  En_br (c := x < 0) hf rfl rfl (fun h => k1 (by have := Int32.lt_iff_toInt_lt.mp h; rw [z32] at this; omega)) (fun h => k2 (by have : ¬ x.toInt < (0 : Int32).toInt := fun z => h (Int32.lt_iff_toInt_lt.mpr z); rw [z32] at this; omega))
theorem En_iGe {x : Int32} {X : Int} (o : Int) (hX : x.toInt = X) (hf : fc F pc = some (.ifCond .ge o, len, tgt)) (k1 : 0 ≤ X → En fr lo scr F P tgt lv r σ) (k2 : X < 0 → En fr lo scr F P (pc + 3) lv r σ) : En fr lo scr F P pc lv (.int x :: r) σ :=
  En_br (c := 0 ≤ x) hf rfl rfl (fun h => k1 (by have := Int32.le_iff_toInt_le.mp h; rw [z32] at this; omega)) (fun h => k2 (by have : ¬ (0 : Int32).toInt ≤ x.toInt := fun z => h (Int32.le_iff_toInt_le.mpr z); rw [z32] at this; omega))
theorem En_iGt {x : Int32} {X : Int} (o : Int) (hX : x.toInt = X) (hf : fc F pc = some (.ifCond .gt o, len, tgt)) (k1 : 0 < X → En fr lo scr F P tgt lv r σ) (k2 : X ≤ 0 → En fr lo scr F P (pc + 3) lv r σ) : En fr lo scr F P pc lv (.int x :: r) σ :=
  En_br (c := 0 < x) hf rfl rfl (fun h => k1 (by have := Int32.lt_iff_toInt_lt.mp h; rw [z32] at this; omega)) (fun h => k2 (by have : ¬ (0 : Int32).toInt < x.toInt := fun z => h (Int32.lt_iff_toInt_lt.mpr z); rw [z32] at this; omega))
theorem En_iLe {x : Int32} {X : Int} (o : Int) (hX : x.toInt = X) (hf : fc F pc = some (.ifCond .le o, len, tgt)) (k1 : X ≤ 0 → En fr lo scr F P tgt lv r σ) (k2 : 0 < X → En fr lo scr F P (pc + 3) lv r σ) : En fr lo scr F P pc lv (.int x :: r) σ :=
  En_br (c := x ≤ 0) hf rfl rfl (fun h => k1 (by have := Int32.le_iff_toInt_le.mp h; rw [z32] at this; omega)) (fun h => k2 (by have : ¬ x.toInt ≤ (0 : Int32).toInt := fun z => h (Int32.le_iff_toInt_le.mpr z); rw [z32] at this; omega))
theorem En_iEq {x : Int32} {X : Int} (o : Int) (hX : x.toInt = X) (hf : fc F pc = some (.ifCond .eq o, len, tgt)) (k1 : X = 0 → En fr lo scr F P tgt lv r σ) (k2 : X ≠ 0 → En fr lo scr F P (pc + 3) lv r σ) : En fr lo scr F P pc lv (.int x :: r) σ :=
  En_br (c := x = 0) hf rfl rfl (fun h => k1 (by rw [h, z32] at hX; omega)) (fun h => k2 (by have : ¬ x.toInt = (0 : Int32).toInt := fun z => h (Int32.toInt_inj.mp z); rw [z32] at this; omega))
theorem En_iNe {x : Int32} {X : Int} (o : Int) (hX : x.toInt = X) (hf : fc F pc = some (.ifCond .ne o, len, tgt)) (k1 : X ≠ 0 → En fr lo scr F P tgt lv r σ) (k2 : X = 0 → En fr lo scr F P (pc + 3) lv r σ) : En fr lo scr F P pc lv (.int x :: r) σ :=
  En_br (c := ¬ x = 0) hf rfl rfl (fun h => k1 (by have : ¬ x.toInt = (0 : Int32).toInt := fun z => h (Int32.toInt_inj.mp z); rw [z32] at this; omega)) (fun h => k2 (by have h2 : x = 0 := Decidable.of_not_not h; rw [h2, z32] at hX; omega))
/-! fields -/
theorem En_get {a g : Nat} {x : Nat} {e : Nat × Nat × Nat × Nat × Nat} (hf : fc F pc = some (.getfield x, len, tgt)) (he : fnd (mfl F) x = some e) (ha : TG a = g) (hg : (KD g == 0 && CL g == e.1 && decide (e.2.1 < LN g) && decide (g < 900)) = true) (hσ : WT σ) (k : ∀ v, (σ a)[e.2.1]? = some v → vOK (FT g e.2.1) v → En fr lo scr F P (pc + 3) lv (v :: r) σ) : En fr lo scr F P pc lv (.ref a :: r) σ := by
  simp only [Bool.and_eq_true, beq_iff_eq, decide_eq_true_eq] at hg
  obtain ⟨⟨⟨g1, g2⟩, g3⟩, g4⟩ := hg
  obtain ⟨v, hv, ht⟩ := WT_at hσ ha g4 g3
  refine En_P1 hf rfl (pc' := pc + 3) (lv' := lv) (st' := v :: r) ?_ (k v hv ht)
  show oB (fnd (mfl F) x) _ = _
  refine oB_mk he (oB_mk (HP_get (shp ha g4)) (oC_mk (by dsimp only; rw [g1, g2]; simp) (oB_mk hv rfl)))
theorem En_getI {a g j : Nat} {x : Nat} {l u : Int} {e : Nat × Nat × Nat × Nat × Nat} (hf : fc F pc = some (.getfield x, len, tgt)) (he : fnd (mfl F) x = some e) (hj : e.2.1 = j) (ha : TG a = g) (hg : (KD g == 0 && CL g == e.1 && decide (e.2.1 < LN g) && decide (g < 900)) = true) (hσ : WT σ) (ht : FT g j = (0, l, u)) (k : ∀ y : Int32, (σ a)[j]? = some (.int y) → l ≤ y.toInt → y.toInt ≤ u → En fr lo scr F P (pc + 3) lv (.int y :: r) σ) : En fr lo scr F P pc lv (.ref a :: r) σ := by
  subst hj
  refine En_get hf he ha hg hσ (fun v hv hk => ?_)
  rw [ht] at hk
  cases v with
  | int y => exact k y hv hk.2.1 hk.2.2
  | long y => exact absurd hk.1 (by intro z; cases z)
  | ref y => exact absurd hk.1 (by intro z; cases z)
  | _ => exact absurd hk id
theorem En_getR {a g j g' : Nat} {x : Nat} {u : Int} {e : Nat × Nat × Nat × Nat × Nat} (hf : fc F pc = some (.getfield x, len, tgt)) (he : fnd (mfl F) x = some e) (hj : e.2.1 = j) (ha : TG a = g) (hg : (KD g == 0 && CL g == e.1 && decide (e.2.1 < LN g) && decide (g < 900)) = true) (hσ : WT σ) (ht : FT g j = (2, (g' : Int), u)) (k : ∀ y : Nat, (σ a)[j]? = some (.ref y) → TG y = g' → En fr lo scr F P (pc + 3) lv (.ref y :: r) σ) : En fr lo scr F P pc lv (.ref a :: r) σ := by
  subst hj
  refine En_get hf he ha hg hσ (fun v hv hk => ?_)
  rw [ht] at hk
  cases v with
  | int y => exact absurd hk.1 (by intro z; cases z)
  | long y => exact absurd hk.1 (by intro z; cases z)
  | ref y => exact k y hv (Int.ofNat_inj.mp hk.2)
  | _ => exact absurd hk id
theorem En_getK {a g j : Nat} {x : Nat} {v : Value} {e : Nat × Nat × Nat × Nat × Nat} (hv : (σ a)[j]? = some v) (hf : fc F pc = some (.getfield x, len, tgt)) (he : fnd (mfl F) x = some e) (hj : e.2.1 = j) (ha : TG a = g) (hg : (KD g == 0 && CL g == e.1 && decide (e.2.1 < LN g) && decide (g < 900)) = true) (k : En fr lo scr F P (pc + 3) lv (v :: r) σ) : En fr lo scr F P pc lv (.ref a :: r) σ := by
  subst hj
  simp only [Bool.and_eq_true, beq_iff_eq, decide_eq_true_eq] at hg
  obtain ⟨⟨⟨g1, g2⟩, g3⟩, g4⟩ := hg
  refine En_P1 hf rfl (pc' := pc + 3) (lv' := lv) (st' := v :: r) ?_ k
  show oB (fnd (mfl F) x) _ = _
  refine oB_mk he (oB_mk (HP_get (shp ha g4)) (oC_mk (by dsimp only; rw [g1, g2]; simp) (oB_mk hv rfl)))
theorem En_put {a g j : Nat} {x : Nat} {v : Value} {e : Nat × Nat × Nat × Nat × Nat} (hf : fc F pc = some (.putfield x, len, tgt)) (he : fnd (mfl F) x = some e) (hj : e.2.1 = j) (ha : TG a = g) (hg : (KD g == 0 && CL g == e.1 && decide (e.2.1 < LN g) && decide (g < 900) && decide (e.2.2.1 < 3)) = true) (hfit : okFit (TYF e.1 e.2.1) v = true) (hv : vOK (FT g j) v) (hσ : WT σ) (hF : Fr W σ0 σ) (hW : W.contains (g, SL g j) = true)
    (k : ∀ σ', WT σ' → Fr W σ0 σ' → (σ' a)[j]? = some v → (∀ b i, (b ≠ a ∨ i ≠ j) → (σ' b)[i]? = (σ b)[i]?) → En fr lo scr F P (pc + 3) lv r σ') : En fr lo scr F P pc lv (v :: .ref a :: r) σ := by
  subst hj
  simp only [Bool.and_eq_true, beq_iff_eq, decide_eq_true_eq] at hg
  obtain ⟨⟨⟨⟨g1, g2⟩, g3⟩, g4⟩, g5⟩ := hg
  have hl := WT_len hσ ha g4
  obtain ⟨w, σ', g, hp⟩ := k (pt σ a ((σ a).set e.2.1 v)) (WT_pt hσ ha hv) (Fr_pt hF ha hW) (pt_at (by omega)) (fun b i h => pt_ne h)
  refine ⟨w, σ', Go_W hf rfl (pc' := pc + 3) (st' := r) (h' := HP (pt σ a ((σ a).set e.2.1 v))) ?_ g, hp⟩
  show oB (fnd (mfl F) x) _ = _
  refine oB_mk he (oB_mk (HP_get (shp ha g4)) (oC_mk (by dsimp only; simp only [Bool.and_eq_true, beq_iff_eq, decide_eq_true_eq]; exact ⟨⟨⟨⟨g1, g2⟩, g5⟩, by omega⟩, hfit⟩) ?_))
  rw [← HP_set (shp ha g4)]
  dsimp only
  rw [g1]
/-! rows of numbers -/
theorem nonneg32 {j : Int32} {J : Int} (hJ : j.toInt = J) (h : 0 ≤ J) : ¬ j < 0 := fun z => by have := Int32.lt_iff_toInt_lt.mp z; rw [z32] at this; omega
theorem toNat32 {j : Int32} {J : Int} (hJ : j.toInt = J) : j.toNatClampNeg = J.toNat := by rw [← hJ]; rfl
theorem ldR_ok {kd t1 t2 a g : Nat} {j : Int32} {J : Int} (ha : TG a = g) (hg : (KD g == kd && (CL g == t1 || CL g == t2) && decide (g < 900)) = true) (hσ : WT σ) (hJ : j.toInt = J) (h0 : 0 ≤ J) (h1 : J < LN g) : ∃ v, (σ a)[J.toNat]? = some v ∧ vOK (FT g J.toNat) v ∧ ldR scr kd t1 t2 (.int j :: .ref a :: r) (HP σ) = some (v, r) := by
  simp only [Bool.and_eq_true, Bool.or_eq_true, beq_iff_eq, decide_eq_true_eq] at hg
  obtain ⟨⟨g1, g2⟩, g4⟩ := hg
  obtain ⟨v, hv, ht⟩ := WT_at (j := J.toNat) hσ ha g4 (by omega)
  refine ⟨v, hv, ht, ?_⟩
  unfold ldR
  refine oB_mk (HP_get (shp ha g4)) (oC_mk (by dsimp only; simp only [Bool.and_eq_true, Bool.or_eq_true, beq_iff_eq, decide_eq_true_eq]; exact ⟨⟨g1, g2⟩, nonneg32 hJ h0⟩) (oB_mk ?_ rfl))
  rw [toNat32 hJ]
  exact hv
theorem vOK_int {l u : Int} {v : Value} (hk : vOK (0, l, u) v) : ∃ y : Int32, v = .int y ∧ l ≤ y.toInt ∧ y.toInt ≤ u := by
  cases v with
  | int y => exact ⟨y, rfl, hk.2.1, hk.2.2⟩
  | long y => exact absurd hk.1 (by intro z; cases z)
  | ref y => exact absurd hk.1 (by intro z; cases z)
  | _ => exact absurd hk id
theorem vOK_long {l u : Int} {v : Value} (hk : vOK (1, l, u) v) : ∃ y : Int64, v = .long y ∧ l ≤ y.toInt ∧ y.toInt ≤ u := by
  cases v with
  | long y => exact ⟨y, rfl, hk.2.1, hk.2.2⟩
  | int y => exact absurd hk.1 (by intro z; cases z)
  | ref y => exact absurd hk.1 (by intro z; cases z)
  | _ => exact absurd hk id
theorem vOK_ref {g : Nat} {u : Int} {v : Value} (hk : vOK (2, (g : Int), u) v) : ∃ y : Nat, v = .ref y ∧ TG y = g := by
  cases v with
  | ref y => exact ⟨y, rfl, Int.ofNat_inj.mp hk.2⟩
  | int y => exact absurd hk.1 (by intro z; cases z)
  | long y => exact absurd hk.1 (by intro z; cases z)
  | _ => exact absurd hk id
theorem En_iald {a g : Nat} {j : Int32} {J l u : Int} (hf : fc F pc = some (.iaload, len, tgt)) (hJ : j.toInt = J) (ha : TG a = g) (hg : (KD g == 1 && (CL g == 0 || CL g == 0) && decide (g < 900)) = true) (hσ : WT σ) (h0 : 0 ≤ J) (h1 : J < LN g) (ht : FT g J.toNat = (0, l, u)) (k : ∀ y : Int32, (σ a)[J.toNat]? = some (.int y) → l ≤ y.toInt → y.toInt ≤ u → En fr lo scr F P (pc + 1) lv (.int y :: r) σ) : En fr lo scr F P pc lv (.int j :: .ref a :: r) σ := by
  obtain ⟨v, hv, hk, hl⟩ := ldR_ok (scr := scr) (r := r) ha hg hσ hJ h0 h1
  rw [ht] at hk
  obtain ⟨y, rfl, h2, h3⟩ := vOK_int hk
  exact En_P1 hf rfl (oB_mk hl rfl) (k y hv h2 h3)
theorem En_bald {a g : Nat} {j : Int32} {J l u : Int} (hf : fc F pc = some (.baload, len, tgt)) (hJ : j.toInt = J) (ha : TG a = g) (hg : (KD g == 1 && (CL g == 2 || CL g == 3) && decide (g < 900)) = true) (hσ : WT σ) (h0 : 0 ≤ J) (h1 : J < LN g) (ht : FT g J.toNat = (0, l, u)) (k : ∀ y : Int32, (σ a)[J.toNat]? = some (.int y) → l ≤ y.toInt → y.toInt ≤ u → En fr lo scr F P (pc + 1) lv (.int y :: r) σ) : En fr lo scr F P pc lv (.int j :: .ref a :: r) σ := by
  obtain ⟨v, hv, hk, hl⟩ := ldR_ok (scr := none) (r := r) ha hg hσ hJ h0 h1
  rw [ht] at hk
  obtain ⟨y, rfl, h2, h3⟩ := vOK_int hk
  exact En_P1 hf rfl (oB_mk hl rfl) (k y hv h2 h3)
theorem En_lald {a g : Nat} {j : Int32} {J l u : Int} (hf : fc F pc = some (.laload, len, tgt)) (hJ : j.toInt = J) (ha : TG a = g) (hg : (KD g == 2 && (CL g == 1 || CL g == 1) && decide (g < 900)) = true) (hσ : WT σ) (h0 : 0 ≤ J) (h1 : J < LN g) (ht : FT g J.toNat = (1, l, u)) (k : ∀ y : Int64, (σ a)[J.toNat]? = some (.long y) → l ≤ y.toInt → y.toInt ≤ u → En fr lo scr F P (pc + 1) lv (.long y :: r) σ) : En fr lo scr F P pc lv (.int j :: .ref a :: r) σ := by
  obtain ⟨v, hv, hk, hl⟩ := ldR_ok (scr := none) (r := r) ha hg hσ hJ h0 h1
  rw [ht] at hk
  obtain ⟨y, rfl, h2, h3⟩ := vOK_long hk
  exact En_P1 hf rfl (oB_mk hl rfl) (k y hv h2 h3)
theorem En_aald {a g g' : Nat} {j : Int32} {J u : Int} (hf : fc F pc = some (.aaload, len, tgt)) (hJ : j.toInt = J) (ha : TG a = g) (hg : (KD g == 3 && (CL g == 4 || CL g == 5 || CL g == 6) && decide (g < 900)) = true) (hσ : WT σ) (h0 : 0 ≤ J) (h1 : J < LN g) (ht : FT g J.toNat = (2, (g' : Int), u)) (k : ∀ y : Nat, (σ a)[J.toNat]? = some (.ref y) → TG y = g' → En fr lo scr F P (pc + 1) lv (.ref y :: r) σ) : En fr lo scr F P pc lv (.int j :: .ref a :: r) σ := by
  simp only [Bool.and_eq_true, Bool.or_eq_true, beq_iff_eq, decide_eq_true_eq] at hg
  obtain ⟨⟨g1, g2⟩, g4⟩ := hg
  obtain ⟨v, hv, hk⟩ := WT_at (j := J.toNat) hσ ha g4 (by omega)
  rw [ht] at hk
  obtain ⟨y, rfl, h2⟩ := vOK_ref hk
  refine En_P1 hf rfl (pc' := pc + 1) (lv' := lv) (st' := .ref y :: r) ?_ (k y hv h2)
  show oB (HP σ)[a]? _ = _
  refine oB_mk (HP_get (shp ha g4)) (oC_mk (by dsimp only; simp only [Bool.and_eq_true, Bool.or_eq_true, beq_iff_eq, decide_eq_true_eq]; exact ⟨⟨g1, g2⟩, nonneg32 hJ h0⟩) (oB_mk (a := .ref y) ?_ rfl))
  rw [toNat32 hJ]
  exact hv
theorem En_alen {a g : Nat} (hf : fc F pc = some (.arraylength, len, tgt)) (ha : TG a = g) (hg : ((KD g == 1 || KD g == 2 || KD g == 3) && decide (CL g < 7) && decide (g < 900)) = true) (hσ : WT σ) (k : En fr lo scr F P (pc + 1) lv (.int (Int32.ofNat (LN g)) :: r) σ) : En fr lo scr F P pc lv (.ref a :: r) σ := by
  simp only [Bool.and_eq_true, Bool.or_eq_true, beq_iff_eq, decide_eq_true_eq] at hg
  obtain ⟨⟨g1, g2⟩, g4⟩ := hg
  refine En_P1 hf rfl (pc' := pc + 1) (lv' := lv) (st' := .int (Int32.ofNat (LN g)) :: r) ?_ k
  show oB (alen scr (HP σ) (.ref a)) _ = _
  refine oB_mk (a := Int32.ofNat (LN g)) ?_ rfl
  unfold alen
  refine oB_mk (HP_get (shp ha g4)) (oC_mk (by dsimp only; simp only [Bool.and_eq_true, Bool.or_eq_true, beq_iff_eq, decide_eq_true_eq]; exact ⟨g1, g2⟩) ?_)
  dsimp only
  rw [WT_len hσ ha g4]
theorem En_iast {a g : Nat} {j y : Int32} {J l u : Int} (hf : fc F pc = some (.iastore, len, tgt)) (hJ : j.toInt = J) (ha : TG a = g) (hg : (KD g == 1 && CL g == 0 && decide (g < 900)) = true) (h0 : 0 ≤ J) (h1 : J < LN g) (ht : FT g J.toNat = (0, l, u)) (hv : l ≤ y.toInt ∧ y.toInt ≤ u) (hσ : WT σ) (hF : Fr W σ0 σ) (hW : W.contains (g, 0) = true)
    (k : ∀ σ', WT σ' → Fr W σ0 σ' → (σ' a)[J.toNat]? = some (.int y) → (∀ b i, (b ≠ a ∨ i ≠ J.toNat) → (σ' b)[i]? = (σ b)[i]?) → En fr lo scr F P (pc + 1) lv r σ') : En fr lo scr F P pc lv (.int y :: .int j :: .ref a :: r) σ := by
  simp only [Bool.and_eq_true, beq_iff_eq, decide_eq_true_eq] at hg
  obtain ⟨⟨g1, g2⟩, g4⟩ := hg
  have hl := WT_len hσ ha g4
  have e : SL g J.toNat = 0 := by unfold SL; rw [if_neg (by omega)]
  obtain ⟨w, σ', gg, hp⟩ := k (pt σ a ((σ a).set J.toNat (.int y))) (WT_pt hσ ha (by rw [ht]; exact ⟨rfl, hv⟩)) (Fr_pt hF ha (by rw [e]; exact hW)) (pt_at (by omega)) (fun b i h => pt_ne h)
  refine ⟨w, σ', Go_W hf rfl (pc' := pc + 1) (st' := r) (h' := HP (pt σ a ((σ a).set J.toNat (.int y)))) ?_ gg, hp⟩
  show oB (HP σ)[a]? _ = _
  refine oB_mk (HP_get (shp ha g4)) (oC_mk (by dsimp only; rw [toNat32 hJ]; simp only [Bool.and_eq_true, beq_iff_eq, decide_eq_true_eq]; exact ⟨⟨⟨⟨rfl, g1⟩, g2⟩, nonneg32 hJ h0⟩, by omega⟩) ?_)
  rw [← HP_set (shp ha g4)]
  dsimp only
  rw [g1, toNat32 hJ]
theorem En_bast {a g : Nat} {j y y' : Int32} {J l u : Int} (hf : fc F pc = some (.bastore, len, tgt)) (hJ : j.toInt = J) (ha : TG a = g) (hg : (KD g == 1 && (CL g == 2 || CL g == 3) && decide (g < 900)) = true) (hy : vp_nar (if CL g = 2 then .byte else .boolean) y = y') (h0 : 0 ≤ J) (h1 : J < LN g) (ht : FT g J.toNat = (0, l, u)) (hv : l ≤ y'.toInt ∧ y'.toInt ≤ u) (hσ : WT σ) (hF : Fr W σ0 σ) (hW : W.contains (g, 0) = true)
    (k : ∀ σ', WT σ' → Fr W σ0 σ' → (σ' a)[J.toNat]? = some (.int y') → (∀ b i, (b ≠ a ∨ i ≠ J.toNat) → (σ' b)[i]? = (σ b)[i]?) → En fr lo scr F P (pc + 1) lv r σ') : En fr lo scr F P pc lv (.int y :: .int j :: .ref a :: r) σ := by
  simp only [Bool.and_eq_true, Bool.or_eq_true, beq_iff_eq, decide_eq_true_eq] at hg
  obtain ⟨⟨g1, g2⟩, g4⟩ := hg
  have hl := WT_len hσ ha g4
  have e : SL g J.toNat = 0 := by unfold SL; rw [if_neg (by omega)]
  obtain ⟨w, σ', gg, hp⟩ := k (pt σ a ((σ a).set J.toNat (.int y'))) (WT_pt hσ ha (by rw [ht]; exact ⟨rfl, hv⟩)) (Fr_pt hF ha (by rw [e]; exact hW)) (pt_at (by omega)) (fun b i h => pt_ne h)
  refine ⟨w, σ', Go_W hf rfl (pc' := pc + 1) (st' := r) (h' := HP (pt σ a ((σ a).set J.toNat (.int y')))) ?_ gg, hp⟩
  show oB (HP σ)[a]? _ = _
  refine oB_mk (HP_get (shp ha g4)) (oC_mk (by dsimp only; rw [toNat32 hJ]; simp only [Bool.and_eq_true, Bool.or_eq_true, beq_iff_eq, decide_eq_true_eq]; exact ⟨⟨⟨⟨rfl, g1⟩, g2⟩, nonneg32 hJ h0⟩, by omega⟩) ?_)
  rw [← HP_set (shp ha g4)]
  dsimp only
  rw [g1, toNat32 hJ, show asI (.int y) = y from rfl, hy]
theorem En_last {a g : Nat} {j : Int32} {y : Int64} {J l u : Int} (hf : fc F pc = some (.lastore, len, tgt)) (hJ : j.toInt = J) (ha : TG a = g) (hg : (KD g == 2 && CL g == 1 && decide (g < 900)) = true) (h0 : 0 ≤ J) (h1 : J < LN g) (ht : FT g J.toNat = (1, l, u)) (hv : l ≤ y.toInt ∧ y.toInt ≤ u) (hσ : WT σ) (hF : Fr W σ0 σ) (hW : W.contains (g, 0) = true)
    (k : ∀ σ', WT σ' → Fr W σ0 σ' → (σ' a)[J.toNat]? = some (.long y) → (∀ b i, (b ≠ a ∨ i ≠ J.toNat) → (σ' b)[i]? = (σ b)[i]?) → En fr lo scr F P (pc + 1) lv r σ') : En fr lo scr F P pc lv (.long y :: .int j :: .ref a :: r) σ := by
  simp only [Bool.and_eq_true, beq_iff_eq, decide_eq_true_eq] at hg
  obtain ⟨⟨g1, g2⟩, g4⟩ := hg
  have hl := WT_len hσ ha g4
  have e : SL g J.toNat = 0 := by unfold SL; rw [if_neg (by omega)]
  obtain ⟨w, σ', gg, hp⟩ := k (pt σ a ((σ a).set J.toNat (.long y))) (WT_pt hσ ha (by rw [ht]; exact ⟨rfl, hv⟩)) (Fr_pt hF ha (by rw [e]; exact hW)) (pt_at (by omega)) (fun b i h => pt_ne h)
  refine ⟨w, σ', Go_W hf rfl (pc' := pc + 1) (st' := r) (h' := HP (pt σ a ((σ a).set J.toNat (.long y)))) ?_ gg, hp⟩
  show oB (HP σ)[a]? _ = _
  refine oB_mk (HP_get (shp ha g4)) (oC_mk (by dsimp only; rw [toNat32 hJ]; simp only [Bool.and_eq_true, beq_iff_eq, decide_eq_true_eq]; exact ⟨⟨⟨⟨rfl, g1⟩, g2⟩, nonneg32 hJ h0⟩, by omega⟩) ?_)
  rw [← HP_set (shp ha g4)]
  dsimp only
  rw [g1, toNat32 hJ]
/-! calls -/
theorem En_callS {kd id : Nat} {pos : Nat × Nat} {G : MR} {Q : PO} {vs : List Value} {fr1 lo1 : Nat} (hf : fc F pc = some (i, len, tgt)) (hk : ikind i = 3) (he : fnd (mcl F) (callIx i) = some (kd, id, pos)) (hkd : callKd i kd = true) (h23 : (kd == 2 || kd == 3) = true) (hG : MT id = some G) (hvs : (st.take (mnp G)).reverse = vs) (hr : st.drop (mnp G) = r)
    (hb : (decide (mnp G ≤ st.length) && decide (1 ≤ fr) && decide (mml G + 19 ≤ lo) && decide (cats r ≤ 8) && decide (cats (st.take (mnp G)) ≤ mml G)) = true) (gc : En fr1 lo1 none G Q 0 (lv_args 0 vs) [] σ) (h1 : fr1 ≤ fr - 1) (h2 : lo1 ≤ lo - (mml G + 19))
    (k : ∀ v σ', Q v σ' → En fr lo scr F P (pc + 3) lv (v.toList ++ r) σ') : En fr lo scr F P pc lv st σ := by
  obtain ⟨v, σ1, g1, q⟩ := gc
  obtain ⟨w, σ2, g2, p⟩ := k v σ1 q
  have hk2 : kd = 2 ∨ kd = 3 := by simpa using h23
  have en : nArg kd G = mnp G := by unfold nArg; rw [if_pos hk2]
  refine ⟨w, σ2, Go_call hf hk he hkd (by omega) hG (by rw [en]; exact hvs) (by rw [en]; exact hr) ?_ (Go_room g1 h1 h2) g2, p⟩
  rw [en]
  simp only [Bool.and_eq_true, decide_eq_true_eq] at hb ⊢
  refine ⟨hb, ?_⟩
  rcases hk2 with rfl | rfl <;> rfl
theorem En_callV {kd id a g : Nat} {pos : Nat × Nat} {G : MR} {Q : PO} {vs : List Value} {fr1 lo1 : Nat} (hf : fc F pc = some (i, len, tgt)) (hk : ikind i = 3) (he : fnd (mcl F) (callIx i) = some (kd, id, pos)) (hkd : callKd i kd = true) (h01 : (kd == 0 || kd == 1) = true) (hG : MT id = some G) (hvs : (st.take (mnp G + 1)).reverse = .ref a :: vs) (hr : st.drop (mnp G + 1) = r) (ha : TG a = g) (hg : (KD g == 0 && CL g == mci G && decide (g < 900)) = true)
    (hb : (decide (mnp G + 1 ≤ st.length) && decide (1 ≤ fr) && decide (mml G + 19 ≤ lo) && decide (cats r ≤ 8) && decide (cats (st.take (mnp G + 1)) ≤ mml G)) = true) (gc : En fr1 lo1 none G Q 0 (lv_args 0 (.ref a :: vs)) [] σ) (h1 : fr1 ≤ fr - 1) (h2 : lo1 ≤ lo - (mml G + 19))
    (k : ∀ v σ', Q v σ' → En fr lo scr F P (pc + 3) lv (v.toList ++ r) σ') : En fr lo scr F P pc lv st σ := by
  obtain ⟨v, σ1, g1, q⟩ := gc
  obtain ⟨w, σ2, g2, p⟩ := k v σ1 q
  have hk2 : kd = 0 ∨ kd = 1 := by simpa using h01
  have en : nArg kd G = mnp G + 1 := by unfold nArg; rw [if_neg (by omega)]
  simp only [Bool.and_eq_true, beq_iff_eq, decide_eq_true_eq] at hg
  obtain ⟨⟨z1, z2⟩, z4⟩ := hg
  refine ⟨w, σ2, Go_call hf hk he hkd (by omega) hG (by rw [en]; exact hvs) (by rw [en]; exact hr) ?_ (Go_room g1 h1 h2) g2, p⟩
  rw [en]
  simp only [Bool.and_eq_true, decide_eq_true_eq] at hb ⊢
  refine ⟨hb, ?_⟩
  have hc := HP_get (σ := σ) (shp ha z4)
  rcases hk2 with rfl | rfl
  · show (match (HP σ)[a]? with | some c => c.1 == 0 && c.2.1 == mci G | none => false) = true
    rw [hc]; dsimp only; rw [z1, z2]; simp
  · show (match (HP σ)[a]? with | some c => c.1 == 0 && c.2.1 == mci G | none => false) = true
    rw [hc]; dsimp only; rw [z1, z2]; simp
theorem FT_one {g j : Nat} (hk : KD g ≠ 0) (hl : (TY g).2.2.2.length = 1) : FT g j = FT g 0 := by
  obtain ⟨t, ht⟩ := List.length_eq_one_iff.mp hl
  unfold FT
  rw [ht]
  cases hk2 : KD g with
  | zero => exact absurd hk2 hk
  | succ n => rfl
theorem cpyl_at {l0 l1 : List Value} {sp dp n j : Nat} {v : Value} (hj : (cpyl l0 l1 sp dp n)[j]? = some v) : (dp ≤ j ∧ j < dp + n ∧ v = l0.getD (sp + (j - dp)) .null) ∨ (¬ (dp ≤ j ∧ j < dp + n) ∧ v = l1.getD j .null ∧ j < l1.length) := by
  unfold cpyl at hj
  rw [List.getElem?_map, Option.map_eq_some_iff] at hj
  obtain ⟨k, hk, rfl⟩ := hj
  obtain ⟨hk1, hk2⟩ := List.getElem?_eq_some_iff.mp hk
  rw [List.getElem_range] at hk2
  subst hk2
  rw [List.length_range] at hk1
  by_cases z : dp ≤ j ∧ j < dp + n
  · exact Or.inl ⟨z.1, z.2, if_pos z⟩
  · exact Or.inr ⟨z, if_neg z, hk1⟩
theorem getD_of {l : List Value} {i : Nat} {v w : Value} (h : l[i]? = some v) : l.getD i w = v := by rw [List.getD_eq_getElem?_getD, h]; rfl
theorem WT_cpy {σ : SG} {a0 a1 g0 g1 sp dp n : Nat} (hσ : WT σ) (h0 : TG a0 = g0) (h1 : TG a1 = g1) (hg0 : g0 < 900) (hg1 : g1 < 900) (hf : ∀ i j, FT g0 i = FT g1 j) (hs : sp + n ≤ LN g0) : WT (pt σ a1 (cpyl (σ a0) (σ a1) sp dp n)) := by
  intro b hb
  unfold pt
  by_cases e : b = a1
  · subst e
    rw [if_pos rfl, cpyl_len]
    refine ⟨(hσ b hb).1, fun j v hv => ?_⟩
    rcases cpyl_at hv with ⟨z1, z2, rfl⟩ | ⟨z1, rfl, z3⟩
    · obtain ⟨w, hw, ht⟩ := WT_at (j := sp + (j - dp)) hσ h0 hg0 (by omega)
      rw [getD_of hw, h1, ← hf (sp + (j - dp)) j]
      exact ht
    · obtain ⟨w, hw, ht⟩ := WT_at (j := j) hσ h1 hg1 (by rw [← WT_len hσ h1 hg1]; exact z3)
      rw [getD_of hw, h1]
      exact ht
  · rw [if_neg e]; exact hσ b hb
theorem En_copy {a0 a1 g0 g1 : Nat} {n dp sp : Int32} {N D S : Int} {kd id : Nat} {pos : Nat × Nat} (hN : n.toInt = N) (hD : dp.toInt = D) (hS : sp.toInt = S) (hf : fc F pc = some (i, len, tgt)) (hk : ikind i = 3) (he : fnd (mcl F) (callIx i) = some (kd, id, pos)) (hb : (decide (1 ≤ fr) && decide (cats r + 40 ≤ lo)) = true) (h0 : TG a0 = g0) (h1 : TG a1 = g1) (hkd : (callKd i kd && (kd == 8)) = true) (hg : (KD g0 == KD g1 && CL g0 == CL g1 && (KD g0 == 1 && CL g0 == 0 || KD g0 == 2 && CL g0 == 1) && decide (g0 < 900) && decide (g1 < 900)) = true)
    (ht : (decide ((TY g0).2.2.2.length = 1) && decide ((TY g1).2.2.2.length = 1) && decide (FT g0 0 = FT g1 0)) = true) {n0 n1 : Nat} (hl0 : LN g0 = n0) (hl1 : LN g1 = n1) (b1 : 0 ≤ N) (b2 : 0 ≤ D) (b3 : 0 ≤ S) (b4 : S + N ≤ (n0 : Int)) (b5 : D + N ≤ (n1 : Int)) (hσ : WT σ) (hF : Fr W σ0 σ) (hW : W.contains (g1, 0) = true)
    (k : ∀ σ' : SG, WT σ' → Fr W σ0 σ' → (∀ b q : Nat, b ≠ a1 → (σ' b)[q]? = (σ b)[q]?) → En fr lo scr F P (pc + 3) lv r σ') : En fr lo scr F P pc lv (.int n :: .int dp :: .ref a1 :: .int sp :: .ref a0 :: r) σ := by
  simp only [Bool.and_eq_true, Bool.or_eq_true, beq_iff_eq, decide_eq_true_eq] at hg ht hkd
  obtain ⟨⟨⟨⟨g1', g2'⟩, g3⟩, g4⟩, g5⟩ := hg
  obtain ⟨⟨t1, t2⟩, t3⟩ := ht
  have k0 : KD g0 ≠ 0 := by rcases g3 with z | z <;> omega
  have hff : ∀ i j, FT g0 i = FT g1 j := fun i j => by rw [FT_one k0 t1, FT_one (by omega) t2, t3]
  have hw := WT_cpy (sp := S.toNat) (dp := D.toNat) (n := N.toNat) hσ h0 h1 g4 g5 hff (by omega)
  have hne : ∀ b q : Nat, b ≠ a1 → (pt σ a1 (cpyl (σ a0) (σ a1) S.toNat D.toNat N.toNat) b)[q]? = (σ b)[q]? := fun b q hb => by unfold pt; rw [if_neg hb]
  have hsl : ∀ q, SL g1 q = 0 := fun q => by unfold SL; rw [if_neg (by omega)]
  have hfr : Fr W σ0 (pt σ a1 (cpyl (σ a0) (σ a1) S.toNat D.toNat N.toNat)) := by
    intro b q hb
    by_cases e : b = a1
    · subst e
      rw [h1, hsl, hW] at hb
      cases hb
    · rw [hne b q e]; exact hF b q hb
  obtain ⟨w, σ', gg, hp⟩ := k _ hw hfr hne
  have hc0 := HP_get (σ := σ) (shp h0 g4)
  have hc1 := HP_get (σ := σ) (shp h1 g5)
  have l0 := WT_len hσ h0 g4
  have l1 := WT_len hσ h1 g5
  refine ⟨w, σ', Go_copy (idx := (0, 0)) (pos := (0, 0)) hf hk he hkd.1 hkd.2 (st2 := r) (h' := HP (pt σ a1 (cpyl (σ a0) (σ a1) S.toNat D.toNat N.toNat))) ?_ hb gg, hp⟩
  unfold acopy
  refine oB_mk hc0 (oB_mk hc1 (oC_mk ?_ ?_))
  · dsimp only
    simp only [Bool.and_eq_true, Bool.or_eq_true, beq_iff_eq, decide_eq_true_eq]
    rw [toNat32 hN, toNat32 hD, toNat32 hS]
    exact ⟨⟨⟨⟨⟨⟨⟨nonneg32 hS b3, nonneg32 hD b2⟩, nonneg32 hN b1⟩, g1'⟩, g2'⟩, g3⟩, by omega⟩, by omega⟩
  · dsimp only
    rw [toNat32 hN, toNat32 hD, toNat32 hS, HP_set (shp h1 g5)]
/-! numbers on the stack: named, with what is known of them -/
theorem En_hav {x : Int32} (k : ∀ z : Int32, En fr lo scr F P pc lv (.int z :: r) σ) : En fr lo scr F P pc lv (.int x :: r) σ := k x
theorem En_havL {x : Int64} (k : ∀ z : Int64, En fr lo scr F P pc lv (.long z :: r) σ) : En fr lo scr F P pc lv (.long x :: r) σ := k x
theorem En_top {x : Int32} {X : Int} (hX : x.toInt = X) (k : ∀ z : Int32, z.toInt = X → En fr lo scr F P pc lv (.int z :: r) σ) : En fr lo scr F P pc lv (.int x :: r) σ := k x hX
theorem En_rng {x : Int32} {l u : Int} (hX : l ≤ x.toInt ∧ x.toInt ≤ u) (k : ∀ z : Int32, l ≤ z.toInt → z.toInt ≤ u → En fr lo scr F P pc lv (.int z :: r) σ) : En fr lo scr F P pc lv (.int x :: r) σ := k x hX.1 hX.2
end EN
theorem addI {x y : Int32} {X Y : Int} (hX : x.toInt = X) (hY : y.toInt = Y) (h1 : -2147483648 ≤ X + Y) (h2 : X + Y ≤ 2147483647) : (x + y).toInt = X + Y := by
  rw [Int32.toInt_add, hX, hY]
  exact Int.bmod_eq_of_le (by omega) (by omega)
theorem subI {x y : Int32} {X Y : Int} (hX : x.toInt = X) (hY : y.toInt = Y) (h1 : -2147483648 ≤ X - Y) (h2 : X - Y ≤ 2147483647) : (x - y).toInt = X - Y := by
  rw [Int32.toInt_sub, hX, hY]
  exact Int.bmod_eq_of_le (by omega) (by omega)
theorem mulI {x y : Int32} {X Y Z : Int} (hX : x.toInt = X) (hY : y.toInt = Y) (hZ : X * Y = Z) (h1 : -2147483648 ≤ Z) (h2 : Z ≤ 2147483647) : (x * y).toInt = Z := by
  rw [Int32.toInt_mul, hX, hY, hZ]
  exact Int.bmod_eq_of_le (by omega) (by omega)
theorem tgz_0 : TG 0 = 0 := by decide +kernel
theorem tgz_1 : TG 1 = 1 := by decide +kernel
theorem tgz_2 : TG 2 = 2 := by decide +kernel
theorem tgz_3 : TG 3 = 3 := by decide +kernel
theorem tgz_4 : TG 4 = 4 := by decide +kernel
theorem tgz_5 : TG 5 = 5 := by decide +kernel
theorem tgz_6 : TG 6 = 6 := by decide +kernel
theorem tgz_7 : TG 7 = 7 := by decide +kernel
theorem tgz_8 : TG 8 = 8 := by decide +kernel
theorem tgz_9 : TG 9 = 9 := by decide +kernel
theorem tgz_10 : TG 10 = 10 := by decide +kernel
theorem tgz_11 : TG 11 = 11 := by decide +kernel
theorem tgz_12 : TG 12 = 12 := by decide +kernel
theorem tgz_13 : TG 13 = 13 := by decide +kernel
theorem tgz_14 : TG 14 = 14 := by decide +kernel
theorem tgz_15 : TG 15 = 15 := by decide +kernel
theorem tgz_16 : TG 16 = 16 := by decide +kernel
theorem tgz_17 : TG 17 = 17 := by decide +kernel
theorem tgz_70 : TG 70 = 29 := by decide +kernel
theorem tgz_71 : TG 71 = 30 := by decide +kernel
theorem tgz_150 : TG 150 = 32 := by decide +kernel
theorem tgz_159 : TG 159 = 35 := by decide +kernel
theorem tgz_160 : TG 160 = 36 := by decide +kernel
theorem tgz_161 : TG 161 = 37 := by decide +kernel
theorem tgz_162 : TG 162 = 38 := by decide +kernel
theorem tgz_163 : TG 163 = 39 := by decide +kernel
theorem tgz_164 : TG 164 = 40 := by decide +kernel
theorem tgz_165 : TG 165 = 41 := by decide +kernel
theorem tgz_166 : TG 166 = 42 := by decide +kernel
theorem tgz_167 : TG 167 = 43 := by decide +kernel
theorem tgz_168 : TG 168 = 44 := by decide +kernel
theorem tgz_169 : TG 169 = 45 := by decide +kernel
theorem tgz_170 : TG 170 = 46 := by decide +kernel
theorem tgz_171 : TG 171 = 47 := by decide +kernel
theorem tgz_172 : TG 172 = 48 := by decide +kernel
theorem tgz_173 : TG 173 = 49 := by decide +kernel
theorem tgz_174 : TG 174 = 50 := by decide +kernel
theorem tgz_175 : TG 175 = 51 := by decide +kernel
theorem tgz_177 : TG 177 = 53 := by decide +kernel
theorem tgz_178 : TG 178 = 54 := by decide +kernel
theorem tgz_179 : TG 179 = 55 := by decide +kernel
theorem tgz_180 : TG 180 = 56 := by decide +kernel
end
/-! 12.b.sub -/
section
/-! THE LOCALS BY THEIR NUMBERS: a run doesn't care for their order, nor for more of them -/
def Has (l1 l2 : ALv) : Prop := ∀ q ∈ l2, fnd l1 q.1 = some q.2
theorem Has_fnd {l1 l2 : ALv} {k : Nat} {v : Value} (h : Has l1 l2) (hf : fnd l2 k = some v) : fnd l1 k = some v := h _ (fnd_mem hf)
theorem ldI_sub {l1 l2 : ALv} {k : Nat} {v : Value} (h : Has l1 l2) (hf : ldI l2 k = some v) : ldI l1 k = some v := by
  obtain ⟨x, rfl, h2⟩ := ldI_inv hf
  unfold ldI; rw [Has_fnd h h2]
theorem ldL_sub {l1 l2 : ALv} {k : Nat} {v : Value} (h : Has l1 l2) (hf : ldL l2 k = some v) : ldL l1 k = some v := by
  obtain ⟨x, rfl, h2⟩ := ldL_inv hf
  unfold ldL; rw [Has_fnd h h2]
theorem ldA_sub {l1 l2 : ALv} {k : Nat} {v : Value} (h : Has l1 l2) (hf : ldA l2 k = some v) : ldA l1 k = some v := by
  obtain ⟨h1, h2⟩ := ldA_inv hf
  unfold ldA; rw [Has_fnd h h2]
  rcases h1 with rfl | ⟨x, rfl⟩ | ⟨x, rfl⟩ <;> rfl
theorem fnd_flt {p : Nat × Value → Bool} {l : ALv} {k : Nat} {v : Value} (hf : fnd l k = some v) (hp : p (k, v) = true) : fnd (l.filter p) k = some v := by
  induction l with
  | nil => cases hf
  | cons q t ih =>
    unfold fnd at hf
    split at hf
    · rename_i hq
      cases hf
      have e : q.1 = k := by simpa using hq
      have hp2 : p q = true := by rw [← hp, ← e]
      rw [List.filter_cons_of_pos hp2]
      unfold fnd
      rw [if_pos hq]
    · rename_i hq
      by_cases hp2 : p q = true
      · rw [List.filter_cons_of_pos hp2]
        unfold fnd
        rw [if_neg hq]
        exact ih hf
      · rw [List.filter_cons_of_neg hp2]
        exact ih hf
theorem Has_set1 {l1 l2 : ALv} {i : Nat} {v : Value} (h : Has l1 l2) : Has (lvset1 l1 i v) (lvset1 l2 i v) := by
  intro q hq
  unfold lvset1 at hq ⊢
  rcases List.mem_cons.mp hq with rfl | hq
  · unfold fnd; simp
  · obtain ⟨h1, h2⟩ := List.mem_filter.mp hq
    have h3 : ¬ ((i, v) : Nat × Value).1 == q.1 := by
      simp only [Bool.and_eq_true, Bool.not_eq_true', beq_eq_false_iff_ne] at h2
      simp only [beq_iff_eq]
      exact fun z => h2.1 z.symm
    unfold fnd
    rw [if_neg h3]
    exact fnd_flt (h q h1) h2
theorem Has_set2 {l1 l2 : ALv} {i : Nat} {v : Value} (h : Has l1 l2) : Has (lvset2 l1 i v) (lvset2 l2 i v) := by
  intro q hq
  unfold lvset2 at hq ⊢
  rcases List.mem_cons.mp hq with rfl | hq
  · unfold fnd; simp
  · obtain ⟨h1, h2⟩ := List.mem_filter.mp hq
    have h3 : ¬ ((i, v) : Nat × Value).1 == q.1 := by
      simp only [Bool.and_eq_true, Bool.not_eq_true', beq_eq_false_iff_ne] at h2
      simp only [beq_iff_eq]
      exact fun z => h2.1 z.symm
    unfold fnd
    rw [if_neg h3]
    exact fnd_flt (h q h1) h2
set_option maxHeartbeats 4000000 in
set_option maxRecDepth 100000 in
theorem stpP_sub {F : MR} {scr : AS} {i : Instr} {tgt pc pc' : Nat} {lv lw lv' : ALv} {st st' : List Value} {hh0 : AH} (hh : Has lw lv) (h : stpP F scr i tgt pc lv st hh0 = some (pc', lv', st')) : ∃ l, stpP F scr i tgt pc lw st hh0 = some (pc', l, st') ∧ Has l lv' := by
  cases i with
  | iconst n =>
    change (some (pc + 1, lv, .int (Int32.ofInt n) :: st)) = _ at h
    change ∃ l, (some (pc + 1, lw, .int (Int32.ofInt n) :: st)) = _ ∧ _
    simp only [Option.some.injEq, Prod.mk.injEq] at h
    obtain ⟨rfl, rfl, rfl⟩ := h
    exact ⟨_, rfl, hh⟩
  | bipush n =>
    change (some (pc + 2, lv, .int (Int8.ofInt n).toInt32 :: st)) = _ at h
    change ∃ l, (some (pc + 2, lw, .int (Int8.ofInt n).toInt32 :: st)) = _ ∧ _
    simp only [Option.some.injEq, Prod.mk.injEq] at h
    obtain ⟨rfl, rfl, rfl⟩ := h
    exact ⟨_, rfl, hh⟩
  | sipush n =>
    change (some (pc + 3, lv, .int (Int16.ofInt n).toInt32 :: st)) = _ at h
    change ∃ l, (some (pc + 3, lw, .int (Int16.ofInt n).toInt32 :: st)) = _ ∧ _
    simp only [Option.some.injEq, Prod.mk.injEq] at h
    obtain ⟨rfl, rfl, rfl⟩ := h
    exact ⟨_, rfl, hh⟩
  | lconst n =>
    change (some (pc + 1, lv, .long (Int64.ofNat (n : Nat)) :: st)) = _ at h
    change ∃ l, (some (pc + 1, lw, .long (Int64.ofNat (n : Nat)) :: st)) = _ ∧ _
    simp only [Option.some.injEq, Prod.mk.injEq] at h
    obtain ⟨rfl, rfl, rfl⟩ := h
    exact ⟨_, rfl, hh⟩
  | iload_n k =>
    change (oB (ldI lv (k : Nat)) (fun v => some (pc + 1, lv, v :: st))) = _ at h
    change ∃ l, (oB (ldI lw (k : Nat)) (fun v => some (pc + 1, lw, v :: st))) = _ ∧ _
    obtain ⟨v, hv, hA1⟩ := oB_inv h
    simp only [Option.some.injEq, Prod.mk.injEq] at hA1
    obtain ⟨rfl, rfl, rfl⟩ := hA1
    exact ⟨_, (oB_mk (ldI_sub hh hv) rfl), hh⟩
  | iload k =>
    change (oB (ldI lv k) (fun v => some (pc + 2, lv, v :: st))) = _ at h
    change ∃ l, (oB (ldI lw k) (fun v => some (pc + 2, lw, v :: st))) = _ ∧ _
    obtain ⟨v, hv, hA1⟩ := oB_inv h
    simp only [Option.some.injEq, Prod.mk.injEq] at hA1
    obtain ⟨rfl, rfl, rfl⟩ := hA1
    exact ⟨_, (oB_mk (ldI_sub hh hv) rfl), hh⟩
  | lload_n k =>
    change (oB (ldL lv (k : Nat)) (fun v => some (pc + 1, lv, v :: st))) = _ at h
    change ∃ l, (oB (ldL lw (k : Nat)) (fun v => some (pc + 1, lw, v :: st))) = _ ∧ _
    obtain ⟨v, hv, hA1⟩ := oB_inv h
    simp only [Option.some.injEq, Prod.mk.injEq] at hA1
    obtain ⟨rfl, rfl, rfl⟩ := hA1
    exact ⟨_, (oB_mk (ldL_sub hh hv) rfl), hh⟩
  | lload k =>
    change (oB (ldL lv k) (fun v => some (pc + 2, lv, v :: st))) = _ at h
    change ∃ l, (oB (ldL lw k) (fun v => some (pc + 2, lw, v :: st))) = _ ∧ _
    obtain ⟨v, hv, hA1⟩ := oB_inv h
    simp only [Option.some.injEq, Prod.mk.injEq] at hA1
    obtain ⟨rfl, rfl, rfl⟩ := hA1
    exact ⟨_, (oB_mk (ldL_sub hh hv) rfl), hh⟩
  | aload_n k =>
    change (oB (ldA lv (k : Nat)) (fun v => some (pc + 1, lv, v :: st))) = _ at h
    change ∃ l, (oB (ldA lw (k : Nat)) (fun v => some (pc + 1, lw, v :: st))) = _ ∧ _
    obtain ⟨v, hv, hA1⟩ := oB_inv h
    simp only [Option.some.injEq, Prod.mk.injEq] at hA1
    obtain ⟨rfl, rfl, rfl⟩ := hA1
    exact ⟨_, (oB_mk (ldA_sub hh hv) rfl), hh⟩
  | aload k =>
    change (oB (ldA lv k) (fun v => some (pc + 2, lv, v :: st))) = _ at h
    change ∃ l, (oB (ldA lw k) (fun v => some (pc + 2, lw, v :: st))) = _ ∧ _
    obtain ⟨v, hv, hA1⟩ := oB_inv h
    simp only [Option.some.injEq, Prod.mk.injEq] at hA1
    obtain ⟨rfl, rfl, rfl⟩ := hA1
    exact ⟨_, (oB_mk (ldA_sub hh hv) rfl), hh⟩
  | istore_n k =>
    change (sI st (fun x r => oC (decide ((k : Nat) < mml F)) (some (pc + 1, lvset1 lv (k : Nat) (.int x), r)))) = _ at h
    change ∃ l, (sI st (fun x r => oC (decide ((k : Nat) < mml F)) (some (pc + 1, lvset1 lw (k : Nat) (.int x), r)))) = _ ∧ _
    obtain ⟨x, r, rfl, hA1⟩ := sI_inv h
    obtain ⟨hc0, hA2⟩ := oC_inv hA1
    simp only [Option.some.injEq, Prod.mk.injEq] at hA2
    obtain ⟨rfl, rfl, rfl⟩ := hA2
    exact ⟨_, (oC_mk hc0 rfl), Has_set1 hh⟩
  | istore k =>
    change (sI st (fun x r => oC (decide (k < mml F)) (some (pc + 2, lvset1 lv k (.int x), r)))) = _ at h
    change ∃ l, (sI st (fun x r => oC (decide (k < mml F)) (some (pc + 2, lvset1 lw k (.int x), r)))) = _ ∧ _
    obtain ⟨x, r, rfl, hA1⟩ := sI_inv h
    obtain ⟨hc0, hA2⟩ := oC_inv hA1
    simp only [Option.some.injEq, Prod.mk.injEq] at hA2
    obtain ⟨rfl, rfl, rfl⟩ := hA2
    exact ⟨_, (oC_mk hc0 rfl), Has_set1 hh⟩
  | lstore_n k =>
    change (sL st (fun x r => oC (decide ((k : Nat) + 1 < mml F)) (some (pc + 1, lvset2 lv (k : Nat) (.long x), r)))) = _ at h
    change ∃ l, (sL st (fun x r => oC (decide ((k : Nat) + 1 < mml F)) (some (pc + 1, lvset2 lw (k : Nat) (.long x), r)))) = _ ∧ _
    obtain ⟨x, r, rfl, hA1⟩ := sL_inv h
    obtain ⟨hc0, hA2⟩ := oC_inv hA1
    simp only [Option.some.injEq, Prod.mk.injEq] at hA2
    obtain ⟨rfl, rfl, rfl⟩ := hA2
    exact ⟨_, (oC_mk hc0 rfl), Has_set2 hh⟩
  | lstore k =>
    change (sL st (fun x r => oC (decide (k + 1 < mml F)) (some (pc + 2, lvset2 lv k (.long x), r)))) = _ at h
    change ∃ l, (sL st (fun x r => oC (decide (k + 1 < mml F)) (some (pc + 2, lvset2 lw k (.long x), r)))) = _ ∧ _
    obtain ⟨x, r, rfl, hA1⟩ := sL_inv h
    obtain ⟨hc0, hA2⟩ := oC_inv hA1
    simp only [Option.some.injEq, Prod.mk.injEq] at hA2
    obtain ⟨rfl, rfl, rfl⟩ := hA2
    exact ⟨_, (oC_mk hc0 rfl), Has_set2 hh⟩
  | astore_n k =>
    change (sR st (fun x r => oC (decide ((k : Nat) < mml F)) (some (pc + 1, lvset1 lv (k : Nat) (.ref x), r)))) = _ at h
    change ∃ l, (sR st (fun x r => oC (decide ((k : Nat) < mml F)) (some (pc + 1, lvset1 lw (k : Nat) (.ref x), r)))) = _ ∧ _
    obtain ⟨x, r, rfl, hA1⟩ := sR_inv h
    obtain ⟨hc0, hA2⟩ := oC_inv hA1
    simp only [Option.some.injEq, Prod.mk.injEq] at hA2
    obtain ⟨rfl, rfl, rfl⟩ := hA2
    exact ⟨_, (oC_mk hc0 rfl), Has_set1 hh⟩
  | astore k =>
    change (sR st (fun x r => oC (decide (k < mml F)) (some (pc + 2, lvset1 lv k (.ref x), r)))) = _ at h
    change ∃ l, (sR st (fun x r => oC (decide (k < mml F)) (some (pc + 2, lvset1 lw k (.ref x), r)))) = _ ∧ _
    obtain ⟨x, r, rfl, hA1⟩ := sR_inv h
    obtain ⟨hc0, hA2⟩ := oC_inv hA1
    simp only [Option.some.injEq, Prod.mk.injEq] at hA2
    obtain ⟨rfl, rfl, rfl⟩ := hA2
    exact ⟨_, (oC_mk hc0 rfl), Has_set1 hh⟩
  | iinc k n =>
    change (oB (ldI lv k) (fun v => oC (decide (k < mml F)) (some (pc + 3, lvset1 lv k (.int (asI v + Int32.ofInt n)), st)))) = _ at h
    change ∃ l, (oB (ldI lw k) (fun v => oC (decide (k < mml F)) (some (pc + 3, lvset1 lw k (.int (asI v + Int32.ofInt n)), st)))) = _ ∧ _
    obtain ⟨v, hv, hA1⟩ := oB_inv h
    obtain ⟨hc0, hA2⟩ := oC_inv hA1
    simp only [Option.some.injEq, Prod.mk.injEq] at hA2
    obtain ⟨rfl, rfl, rfl⟩ := hA2
    exact ⟨_, (oB_mk (ldI_sub hh hv) (oC_mk hc0 rfl)), Has_set1 hh⟩
  | iadd =>
    change (sII st (fun x y r => some (pc + 1, lv, .int (x + y) :: r))) = _ at h
    change ∃ l, (sII st (fun x y r => some (pc + 1, lw, .int (x + y) :: r))) = _ ∧ _
    obtain ⟨x, y, r, rfl, hA1⟩ := sII_inv h
    simp only [Option.some.injEq, Prod.mk.injEq] at hA1
    obtain ⟨rfl, rfl, rfl⟩ := hA1
    exact ⟨_, rfl, hh⟩
  | isub =>
    change (sII st (fun x y r => some (pc + 1, lv, .int (x - y) :: r))) = _ at h
    change ∃ l, (sII st (fun x y r => some (pc + 1, lw, .int (x - y) :: r))) = _ ∧ _
    obtain ⟨x, y, r, rfl, hA1⟩ := sII_inv h
    simp only [Option.some.injEq, Prod.mk.injEq] at hA1
    obtain ⟨rfl, rfl, rfl⟩ := hA1
    exact ⟨_, rfl, hh⟩
  | imul =>
    change (sII st (fun x y r => some (pc + 1, lv, .int (x * y) :: r))) = _ at h
    change ∃ l, (sII st (fun x y r => some (pc + 1, lw, .int (x * y) :: r))) = _ ∧ _
    obtain ⟨x, y, r, rfl, hA1⟩ := sII_inv h
    simp only [Option.some.injEq, Prod.mk.injEq] at hA1
    obtain ⟨rfl, rfl, rfl⟩ := hA1
    exact ⟨_, rfl, hh⟩
  | iand =>
    change (sII st (fun x y r => some (pc + 1, lv, .int (x &&& y) :: r))) = _ at h
    change ∃ l, (sII st (fun x y r => some (pc + 1, lw, .int (x &&& y) :: r))) = _ ∧ _
    obtain ⟨x, y, r, rfl, hA1⟩ := sII_inv h
    simp only [Option.some.injEq, Prod.mk.injEq] at hA1
    obtain ⟨rfl, rfl, rfl⟩ := hA1
    exact ⟨_, rfl, hh⟩
  | ior =>
    change (sII st (fun x y r => some (pc + 1, lv, .int (x ||| y) :: r))) = _ at h
    change ∃ l, (sII st (fun x y r => some (pc + 1, lw, .int (x ||| y) :: r))) = _ ∧ _
    obtain ⟨x, y, r, rfl, hA1⟩ := sII_inv h
    simp only [Option.some.injEq, Prod.mk.injEq] at hA1
    obtain ⟨rfl, rfl, rfl⟩ := hA1
    exact ⟨_, rfl, hh⟩
  | ixor =>
    change (sII st (fun x y r => some (pc + 1, lv, .int (x ^^^ y) :: r))) = _ at h
    change ∃ l, (sII st (fun x y r => some (pc + 1, lw, .int (x ^^^ y) :: r))) = _ ∧ _
    obtain ⟨x, y, r, rfl, hA1⟩ := sII_inv h
    simp only [Option.some.injEq, Prod.mk.injEq] at hA1
    obtain ⟨rfl, rfl, rfl⟩ := hA1
    exact ⟨_, rfl, hh⟩
  | ishl =>
    change (sII st (fun x y r => some (pc + 1, lv, .int (x <<< (y &&& 31)) :: r))) = _ at h
    change ∃ l, (sII st (fun x y r => some (pc + 1, lw, .int (x <<< (y &&& 31)) :: r))) = _ ∧ _
    obtain ⟨x, y, r, rfl, hA1⟩ := sII_inv h
    simp only [Option.some.injEq, Prod.mk.injEq] at hA1
    obtain ⟨rfl, rfl, rfl⟩ := hA1
    exact ⟨_, rfl, hh⟩
  | ishr =>
    change (sII st (fun x y r => some (pc + 1, lv, .int (x >>> (y &&& 31)) :: r))) = _ at h
    change ∃ l, (sII st (fun x y r => some (pc + 1, lw, .int (x >>> (y &&& 31)) :: r))) = _ ∧ _
    obtain ⟨x, y, r, rfl, hA1⟩ := sII_inv h
    simp only [Option.some.injEq, Prod.mk.injEq] at hA1
    obtain ⟨rfl, rfl, rfl⟩ := hA1
    exact ⟨_, rfl, hh⟩
  | iushr =>
    change (sII st (fun x y r => some (pc + 1, lv, .int ((x.toUInt32 >>> (y.toUInt32 &&& Int32.toUInt32 31)).toInt32) :: r))) = _ at h
    change ∃ l, (sII st (fun x y r => some (pc + 1, lw, .int ((x.toUInt32 >>> (y.toUInt32 &&& Int32.toUInt32 31)).toInt32) :: r))) = _ ∧ _
    obtain ⟨x, y, r, rfl, hA1⟩ := sII_inv h
    simp only [Option.some.injEq, Prod.mk.injEq] at hA1
    obtain ⟨rfl, rfl, rfl⟩ := hA1
    exact ⟨_, rfl, hh⟩
  | idiv =>
    change (sII st (fun x y r => oC (decide (¬ y = 0)) (some (pc + 1, lv, .int (x / y) :: r)))) = _ at h
    change ∃ l, (sII st (fun x y r => oC (decide (¬ y = 0)) (some (pc + 1, lw, .int (x / y) :: r)))) = _ ∧ _
    obtain ⟨x, y, r, rfl, hA1⟩ := sII_inv h
    obtain ⟨hc0, hA2⟩ := oC_inv hA1
    simp only [Option.some.injEq, Prod.mk.injEq] at hA2
    obtain ⟨rfl, rfl, rfl⟩ := hA2
    exact ⟨_, (oC_mk hc0 rfl), hh⟩
  | irem =>
    change (sII st (fun x y r => oC (decide (¬ y = 0)) (some (pc + 1, lv, .int (x - x / y * y) :: r)))) = _ at h
    change ∃ l, (sII st (fun x y r => oC (decide (¬ y = 0)) (some (pc + 1, lw, .int (x - x / y * y) :: r)))) = _ ∧ _
    obtain ⟨x, y, r, rfl, hA1⟩ := sII_inv h
    obtain ⟨hc0, hA2⟩ := oC_inv hA1
    simp only [Option.some.injEq, Prod.mk.injEq] at hA2
    obtain ⟨rfl, rfl, rfl⟩ := hA2
    exact ⟨_, (oC_mk hc0 rfl), hh⟩
  | ladd =>
    change (sLL st (fun x y r => some (pc + 1, lv, .long (x + y) :: r))) = _ at h
    change ∃ l, (sLL st (fun x y r => some (pc + 1, lw, .long (x + y) :: r))) = _ ∧ _
    obtain ⟨x, y, r, rfl, hA1⟩ := sLL_inv h
    simp only [Option.some.injEq, Prod.mk.injEq] at hA1
    obtain ⟨rfl, rfl, rfl⟩ := hA1
    exact ⟨_, rfl, hh⟩
  | lsub =>
    change (sLL st (fun x y r => some (pc + 1, lv, .long (x - y) :: r))) = _ at h
    change ∃ l, (sLL st (fun x y r => some (pc + 1, lw, .long (x - y) :: r))) = _ ∧ _
    obtain ⟨x, y, r, rfl, hA1⟩ := sLL_inv h
    simp only [Option.some.injEq, Prod.mk.injEq] at hA1
    obtain ⟨rfl, rfl, rfl⟩ := hA1
    exact ⟨_, rfl, hh⟩
  | lmul =>
    change (sLL st (fun x y r => some (pc + 1, lv, .long (x * y) :: r))) = _ at h
    change ∃ l, (sLL st (fun x y r => some (pc + 1, lw, .long (x * y) :: r))) = _ ∧ _
    obtain ⟨x, y, r, rfl, hA1⟩ := sLL_inv h
    simp only [Option.some.injEq, Prod.mk.injEq] at hA1
    obtain ⟨rfl, rfl, rfl⟩ := hA1
    exact ⟨_, rfl, hh⟩
  | land =>
    change (sLL st (fun x y r => some (pc + 1, lv, .long (x &&& y) :: r))) = _ at h
    change ∃ l, (sLL st (fun x y r => some (pc + 1, lw, .long (x &&& y) :: r))) = _ ∧ _
    obtain ⟨x, y, r, rfl, hA1⟩ := sLL_inv h
    simp only [Option.some.injEq, Prod.mk.injEq] at hA1
    obtain ⟨rfl, rfl, rfl⟩ := hA1
    exact ⟨_, rfl, hh⟩
  | lor =>
    change (sLL st (fun x y r => some (pc + 1, lv, .long (x ||| y) :: r))) = _ at h
    change ∃ l, (sLL st (fun x y r => some (pc + 1, lw, .long (x ||| y) :: r))) = _ ∧ _
    obtain ⟨x, y, r, rfl, hA1⟩ := sLL_inv h
    simp only [Option.some.injEq, Prod.mk.injEq] at hA1
    obtain ⟨rfl, rfl, rfl⟩ := hA1
    exact ⟨_, rfl, hh⟩
  | lxor =>
    change (sLL st (fun x y r => some (pc + 1, lv, .long (x ^^^ y) :: r))) = _ at h
    change ∃ l, (sLL st (fun x y r => some (pc + 1, lw, .long (x ^^^ y) :: r))) = _ ∧ _
    obtain ⟨x, y, r, rfl, hA1⟩ := sLL_inv h
    simp only [Option.some.injEq, Prod.mk.injEq] at hA1
    obtain ⟨rfl, rfl, rfl⟩ := hA1
    exact ⟨_, rfl, hh⟩
  | ldiv =>
    change (sLL st (fun x y r => oC (decide (¬ y = 0)) (some (pc + 1, lv, .long (x / y) :: r)))) = _ at h
    change ∃ l, (sLL st (fun x y r => oC (decide (¬ y = 0)) (some (pc + 1, lw, .long (x / y) :: r)))) = _ ∧ _
    obtain ⟨x, y, r, rfl, hA1⟩ := sLL_inv h
    obtain ⟨hc0, hA2⟩ := oC_inv hA1
    simp only [Option.some.injEq, Prod.mk.injEq] at hA2
    obtain ⟨rfl, rfl, rfl⟩ := hA2
    exact ⟨_, (oC_mk hc0 rfl), hh⟩
  | lrem =>
    change (sLL st (fun x y r => oC (decide (¬ y = 0)) (some (pc + 1, lv, .long (x - x / y * y) :: r)))) = _ at h
    change ∃ l, (sLL st (fun x y r => oC (decide (¬ y = 0)) (some (pc + 1, lw, .long (x - x / y * y) :: r)))) = _ ∧ _
    obtain ⟨x, y, r, rfl, hA1⟩ := sLL_inv h
    obtain ⟨hc0, hA2⟩ := oC_inv hA1
    simp only [Option.some.injEq, Prod.mk.injEq] at hA2
    obtain ⟨rfl, rfl, rfl⟩ := hA2
    exact ⟨_, (oC_mk hc0 rfl), hh⟩
  | lshl =>
    change (sLI st (fun x y r => some (pc + 1, lv, .long (x <<< (y.toInt64 &&& 63)) :: r))) = _ at h
    change ∃ l, (sLI st (fun x y r => some (pc + 1, lw, .long (x <<< (y.toInt64 &&& 63)) :: r))) = _ ∧ _
    obtain ⟨x, y, r, rfl, hA1⟩ := sLI_inv h
    simp only [Option.some.injEq, Prod.mk.injEq] at hA1
    obtain ⟨rfl, rfl, rfl⟩ := hA1
    exact ⟨_, rfl, hh⟩
  | lshr =>
    change (sLI st (fun x y r => some (pc + 1, lv, .long (x >>> (y.toInt64 &&& 63)) :: r))) = _ at h
    change ∃ l, (sLI st (fun x y r => some (pc + 1, lw, .long (x >>> (y.toInt64 &&& 63)) :: r))) = _ ∧ _
    obtain ⟨x, y, r, rfl, hA1⟩ := sLI_inv h
    simp only [Option.some.injEq, Prod.mk.injEq] at hA1
    obtain ⟨rfl, rfl, rfl⟩ := hA1
    exact ⟨_, rfl, hh⟩
  | ineg =>
    change (sI st (fun x r => some (pc + 1, lv, .int (-x) :: r))) = _ at h
    change ∃ l, (sI st (fun x r => some (pc + 1, lw, .int (-x) :: r))) = _ ∧ _
    obtain ⟨x, r, rfl, hA1⟩ := sI_inv h
    simp only [Option.some.injEq, Prod.mk.injEq] at hA1
    obtain ⟨rfl, rfl, rfl⟩ := hA1
    exact ⟨_, rfl, hh⟩
  | i2l =>
    change (sI st (fun x r => some (pc + 1, lv, .long x.toInt64 :: r))) = _ at h
    change ∃ l, (sI st (fun x r => some (pc + 1, lw, .long x.toInt64 :: r))) = _ ∧ _
    obtain ⟨x, r, rfl, hA1⟩ := sI_inv h
    simp only [Option.some.injEq, Prod.mk.injEq] at hA1
    obtain ⟨rfl, rfl, rfl⟩ := hA1
    exact ⟨_, rfl, hh⟩
  | l2i =>
    change (sL st (fun x r => some (pc + 1, lv, .int x.toInt32 :: r))) = _ at h
    change ∃ l, (sL st (fun x r => some (pc + 1, lw, .int x.toInt32 :: r))) = _ ∧ _
    obtain ⟨x, r, rfl, hA1⟩ := sL_inv h
    simp only [Option.some.injEq, Prod.mk.injEq] at hA1
    obtain ⟨rfl, rfl, rfl⟩ := hA1
    exact ⟨_, rfl, hh⟩
  | i2b =>
    change (sI st (fun x r => some (pc + 1, lv, .int x.toInt8.toInt32 :: r))) = _ at h
    change ∃ l, (sI st (fun x r => some (pc + 1, lw, .int x.toInt8.toInt32 :: r))) = _ ∧ _
    obtain ⟨x, r, rfl, hA1⟩ := sI_inv h
    simp only [Option.some.injEq, Prod.mk.injEq] at hA1
    obtain ⟨rfl, rfl, rfl⟩ := hA1
    exact ⟨_, rfl, hh⟩
  | lcmp =>
    change (sLL st (fun x y r => some (pc + 1, lv, .int (lg_cmp x y) :: r))) = _ at h
    change ∃ l, (sLL st (fun x y r => some (pc + 1, lw, .int (lg_cmp x y) :: r))) = _ ∧ _
    obtain ⟨x, y, r, rfl, hA1⟩ := sLL_inv h
    simp only [Option.some.injEq, Prod.mk.injEq] at hA1
    obtain ⟨rfl, rfl, rfl⟩ := hA1
    exact ⟨_, rfl, hh⟩
  | dup =>
    change (sV st (fun v r => oC (v.category == 1) (some (pc + 1, lv, v :: v :: r)))) = _ at h
    change ∃ l, (sV st (fun v r => oC (v.category == 1) (some (pc + 1, lw, v :: v :: r)))) = _ ∧ _
    obtain ⟨v, r, rfl, hA1⟩ := sV_inv h
    obtain ⟨hc0, hA2⟩ := oC_inv hA1
    simp only [Option.some.injEq, Prod.mk.injEq] at hA2
    obtain ⟨rfl, rfl, rfl⟩ := hA2
    exact ⟨_, (oC_mk hc0 rfl), hh⟩
  | dup2 =>
    change (sVV st (fun v u r => oC (v.category == 1 && u.category == 1) (some (pc + 1, lv, v :: u :: v :: u :: r)))) = _ at h
    change ∃ l, (sVV st (fun v u r => oC (v.category == 1 && u.category == 1) (some (pc + 1, lw, v :: u :: v :: u :: r)))) = _ ∧ _
    obtain ⟨v, u, r, rfl, hA1⟩ := sVV_inv h
    obtain ⟨hc0, hA2⟩ := oC_inv hA1
    simp only [Option.some.injEq, Prod.mk.injEq] at hA2
    obtain ⟨rfl, rfl, rfl⟩ := hA2
    exact ⟨_, (oC_mk hc0 rfl), hh⟩
  | pop =>
    change (sV st (fun v r => oC (v.category == 1) (some (pc + 1, lv, r)))) = _ at h
    change ∃ l, (sV st (fun v r => oC (v.category == 1) (some (pc + 1, lw, r)))) = _ ∧ _
    obtain ⟨v, r, rfl, hA1⟩ := sV_inv h
    obtain ⟨hc0, hA2⟩ := oC_inv hA1
    simp only [Option.some.injEq, Prod.mk.injEq] at hA2
    obtain ⟨rfl, rfl, rfl⟩ := hA2
    exact ⟨_, (oC_mk hc0 rfl), hh⟩
  | goto _ =>
    change (some (tgt, lv, st)) = _ at h
    change ∃ l, (some (tgt, lw, st)) = _ ∧ _
    simp only [Option.some.injEq, Prod.mk.injEq] at h
    obtain ⟨rfl, rfl, rfl⟩ := h
    exact ⟨_, rfl, hh⟩
  | if_icmp cnd off =>
    cases cnd with
    | eq =>
      change (sII st (fun x y r => jmp (decide (x = y)) tgt (pc + 3) lv r)) = _ at h
      change ∃ l, (sII st (fun x y r => jmp (decide (x = y)) tgt (pc + 3) lw r)) = _ ∧ _
      obtain ⟨x, y, r, rfl, hA1⟩ := sII_inv h
      rcases jmp_inv hA1 with ⟨ht, hx⟩ | ⟨ht, hx⟩
      · simp only [Prod.mk.injEq] at hx
        obtain ⟨rfl, rfl, rfl⟩ := hx
        exact ⟨_, (by show jmp _ _ _ _ _ = _; rw [ht]; rfl), hh⟩
      · simp only [Prod.mk.injEq] at hx
        obtain ⟨rfl, rfl, rfl⟩ := hx
        exact ⟨_, (by show jmp _ _ _ _ _ = _; rw [ht]; rfl), hh⟩
    | ne =>
      change (sII st (fun x y r => jmp (decide (¬ x = y)) tgt (pc + 3) lv r)) = _ at h
      change ∃ l, (sII st (fun x y r => jmp (decide (¬ x = y)) tgt (pc + 3) lw r)) = _ ∧ _
      obtain ⟨x, y, r, rfl, hA1⟩ := sII_inv h
      rcases jmp_inv hA1 with ⟨ht, hx⟩ | ⟨ht, hx⟩
      · simp only [Prod.mk.injEq] at hx
        obtain ⟨rfl, rfl, rfl⟩ := hx
        exact ⟨_, (by show jmp _ _ _ _ _ = _; rw [ht]; rfl), hh⟩
      · simp only [Prod.mk.injEq] at hx
        obtain ⟨rfl, rfl, rfl⟩ := hx
        exact ⟨_, (by show jmp _ _ _ _ _ = _; rw [ht]; rfl), hh⟩
    | lt =>
      change (sII st (fun x y r => jmp (decide (x < y)) tgt (pc + 3) lv r)) = _ at h
      change ∃ l, (sII st (fun x y r => jmp (decide (x < y)) tgt (pc + 3) lw r)) = _ ∧ _
      obtain ⟨x, y, r, rfl, hA1⟩ := sII_inv h
      rcases jmp_inv hA1 with ⟨ht, hx⟩ | ⟨ht, hx⟩
      · simp only [Prod.mk.injEq] at hx
        obtain ⟨rfl, rfl, rfl⟩ := hx
        exact ⟨_, (by show jmp _ _ _ _ _ = _; rw [ht]; rfl), hh⟩
      · simp only [Prod.mk.injEq] at hx
        obtain ⟨rfl, rfl, rfl⟩ := hx
        exact ⟨_, (by show jmp _ _ _ _ _ = _; rw [ht]; rfl), hh⟩
    | ge =>
      change (sII st (fun x y r => jmp (decide (y ≤ x)) tgt (pc + 3) lv r)) = _ at h
      change ∃ l, (sII st (fun x y r => jmp (decide (y ≤ x)) tgt (pc + 3) lw r)) = _ ∧ _
      obtain ⟨x, y, r, rfl, hA1⟩ := sII_inv h
      rcases jmp_inv hA1 with ⟨ht, hx⟩ | ⟨ht, hx⟩
      · simp only [Prod.mk.injEq] at hx
        obtain ⟨rfl, rfl, rfl⟩ := hx
        exact ⟨_, (by show jmp _ _ _ _ _ = _; rw [ht]; rfl), hh⟩
      · simp only [Prod.mk.injEq] at hx
        obtain ⟨rfl, rfl, rfl⟩ := hx
        exact ⟨_, (by show jmp _ _ _ _ _ = _; rw [ht]; rfl), hh⟩
    | gt =>
      change (sII st (fun x y r => jmp (decide (y < x)) tgt (pc + 3) lv r)) = _ at h
      change ∃ l, (sII st (fun x y r => jmp (decide (y < x)) tgt (pc + 3) lw r)) = _ ∧ _
      obtain ⟨x, y, r, rfl, hA1⟩ := sII_inv h
      rcases jmp_inv hA1 with ⟨ht, hx⟩ | ⟨ht, hx⟩
      · simp only [Prod.mk.injEq] at hx
        obtain ⟨rfl, rfl, rfl⟩ := hx
        exact ⟨_, (by show jmp _ _ _ _ _ = _; rw [ht]; rfl), hh⟩
      · simp only [Prod.mk.injEq] at hx
        obtain ⟨rfl, rfl, rfl⟩ := hx
        exact ⟨_, (by show jmp _ _ _ _ _ = _; rw [ht]; rfl), hh⟩
    | le =>
      change (sII st (fun x y r => jmp (decide (x ≤ y)) tgt (pc + 3) lv r)) = _ at h
      change ∃ l, (sII st (fun x y r => jmp (decide (x ≤ y)) tgt (pc + 3) lw r)) = _ ∧ _
      obtain ⟨x, y, r, rfl, hA1⟩ := sII_inv h
      rcases jmp_inv hA1 with ⟨ht, hx⟩ | ⟨ht, hx⟩
      · simp only [Prod.mk.injEq] at hx
        obtain ⟨rfl, rfl, rfl⟩ := hx
        exact ⟨_, (by show jmp _ _ _ _ _ = _; rw [ht]; rfl), hh⟩
      · simp only [Prod.mk.injEq] at hx
        obtain ⟨rfl, rfl, rfl⟩ := hx
        exact ⟨_, (by show jmp _ _ _ _ _ = _; rw [ht]; rfl), hh⟩
  | ifCond cnd off =>
    cases cnd with
    | eq =>
      change (sI st (fun x r => jmp (decide (x = 0)) tgt (pc + 3) lv r)) = _ at h
      change ∃ l, (sI st (fun x r => jmp (decide (x = 0)) tgt (pc + 3) lw r)) = _ ∧ _
      obtain ⟨x, r, rfl, hA1⟩ := sI_inv h
      rcases jmp_inv hA1 with ⟨ht, hx⟩ | ⟨ht, hx⟩
      · simp only [Prod.mk.injEq] at hx
        obtain ⟨rfl, rfl, rfl⟩ := hx
        exact ⟨_, (by show jmp _ _ _ _ _ = _; rw [ht]; rfl), hh⟩
      · simp only [Prod.mk.injEq] at hx
        obtain ⟨rfl, rfl, rfl⟩ := hx
        exact ⟨_, (by show jmp _ _ _ _ _ = _; rw [ht]; rfl), hh⟩
    | ne =>
      change (sI st (fun x r => jmp (decide (¬ x = 0)) tgt (pc + 3) lv r)) = _ at h
      change ∃ l, (sI st (fun x r => jmp (decide (¬ x = 0)) tgt (pc + 3) lw r)) = _ ∧ _
      obtain ⟨x, r, rfl, hA1⟩ := sI_inv h
      rcases jmp_inv hA1 with ⟨ht, hx⟩ | ⟨ht, hx⟩
      · simp only [Prod.mk.injEq] at hx
        obtain ⟨rfl, rfl, rfl⟩ := hx
        exact ⟨_, (by show jmp _ _ _ _ _ = _; rw [ht]; rfl), hh⟩
      · simp only [Prod.mk.injEq] at hx
        obtain ⟨rfl, rfl, rfl⟩ := hx
        exact ⟨_, (by show jmp _ _ _ _ _ = _; rw [ht]; rfl), hh⟩
    | lt =>
      change (sI st (fun x r => jmp (decide (x < 0)) tgt (pc + 3) lv r)) = _ at h
      change ∃ l, (sI st (fun x r => jmp (decide (x < 0)) tgt (pc + 3) lw r)) = _ ∧ _
      obtain ⟨x, r, rfl, hA1⟩ := sI_inv h
      rcases jmp_inv hA1 with ⟨ht, hx⟩ | ⟨ht, hx⟩
      · simp only [Prod.mk.injEq] at hx
        obtain ⟨rfl, rfl, rfl⟩ := hx
        exact ⟨_, (by show jmp _ _ _ _ _ = _; rw [ht]; rfl), hh⟩
      · simp only [Prod.mk.injEq] at hx
        obtain ⟨rfl, rfl, rfl⟩ := hx
        exact ⟨_, (by show jmp _ _ _ _ _ = _; rw [ht]; rfl), hh⟩
    | ge =>
      change (sI st (fun x r => jmp (decide (0 ≤ x)) tgt (pc + 3) lv r)) = _ at h
      change ∃ l, (sI st (fun x r => jmp (decide (0 ≤ x)) tgt (pc + 3) lw r)) = _ ∧ _
      obtain ⟨x, r, rfl, hA1⟩ := sI_inv h
      rcases jmp_inv hA1 with ⟨ht, hx⟩ | ⟨ht, hx⟩
      · simp only [Prod.mk.injEq] at hx
        obtain ⟨rfl, rfl, rfl⟩ := hx
        exact ⟨_, (by show jmp _ _ _ _ _ = _; rw [ht]; rfl), hh⟩
      · simp only [Prod.mk.injEq] at hx
        obtain ⟨rfl, rfl, rfl⟩ := hx
        exact ⟨_, (by show jmp _ _ _ _ _ = _; rw [ht]; rfl), hh⟩
    | gt =>
      change (sI st (fun x r => jmp (decide (0 < x)) tgt (pc + 3) lv r)) = _ at h
      change ∃ l, (sI st (fun x r => jmp (decide (0 < x)) tgt (pc + 3) lw r)) = _ ∧ _
      obtain ⟨x, r, rfl, hA1⟩ := sI_inv h
      rcases jmp_inv hA1 with ⟨ht, hx⟩ | ⟨ht, hx⟩
      · simp only [Prod.mk.injEq] at hx
        obtain ⟨rfl, rfl, rfl⟩ := hx
        exact ⟨_, (by show jmp _ _ _ _ _ = _; rw [ht]; rfl), hh⟩
      · simp only [Prod.mk.injEq] at hx
        obtain ⟨rfl, rfl, rfl⟩ := hx
        exact ⟨_, (by show jmp _ _ _ _ _ = _; rw [ht]; rfl), hh⟩
    | le =>
      change (sI st (fun x r => jmp (decide (x ≤ 0)) tgt (pc + 3) lv r)) = _ at h
      change ∃ l, (sI st (fun x r => jmp (decide (x ≤ 0)) tgt (pc + 3) lw r)) = _ ∧ _
      obtain ⟨x, r, rfl, hA1⟩ := sI_inv h
      rcases jmp_inv hA1 with ⟨ht, hx⟩ | ⟨ht, hx⟩
      · simp only [Prod.mk.injEq] at hx
        obtain ⟨rfl, rfl, rfl⟩ := hx
        exact ⟨_, (by show jmp _ _ _ _ _ = _; rw [ht]; rfl), hh⟩
      · simp only [Prod.mk.injEq] at hx
        obtain ⟨rfl, rfl, rfl⟩ := hx
        exact ⟨_, (by show jmp _ _ _ _ _ = _; rw [ht]; rfl), hh⟩
  | tableswitch dflt lo hi offs =>
    change (sI st (fun x r => oB (tsw pc dflt lo hi offs x) (fun t => some (t, lv, r)))) = _ at h
    change ∃ l, (sI st (fun x r => oB (tsw pc dflt lo hi offs x) (fun t => some (t, lw, r)))) = _ ∧ _
    obtain ⟨x, r, rfl, hA1⟩ := sI_inv h
    obtain ⟨t, ht, hA2⟩ := oB_inv hA1
    simp only [Option.some.injEq, Prod.mk.injEq] at hA2
    obtain ⟨rfl, rfl, rfl⟩ := hA2
    exact ⟨_, (oB_mk ht rfl), hh⟩
  | lookupswitch dflt ps =>
    change (sI st (fun x r => oC ((ps.toList.zip (ps.toList.drop 1)).all (fun (a, next) => a.1 < next.1) && decide (0 ≤ (pc : Int) + Op.lookupswitch.offset ps.toList dflt x.toInt)) (some (((pc : Int) + Op.lookupswitch.offset ps.toList dflt x.toInt).toNat, lv, r)))) = _ at h
    change ∃ l, (sI st (fun x r => oC ((ps.toList.zip (ps.toList.drop 1)).all (fun (a, next) => a.1 < next.1) && decide (0 ≤ (pc : Int) + Op.lookupswitch.offset ps.toList dflt x.toInt)) (some (((pc : Int) + Op.lookupswitch.offset ps.toList dflt x.toInt).toNat, lw, r)))) = _ ∧ _
    obtain ⟨x, r, rfl, hA1⟩ := sI_inv h
    obtain ⟨hc0, hA2⟩ := oC_inv hA1
    simp only [Option.some.injEq, Prod.mk.injEq] at hA2
    obtain ⟨rfl, rfl, rfl⟩ := hA2
    exact ⟨_, (oC_mk hc0 rfl), hh⟩
  | ldc k =>
    change (oB (fnd (mki F) k) (fun q => some (pc + 2, lv, .int q.1 :: st))) = _ at h
    change ∃ l, (oB (fnd (mki F) k) (fun q => some (pc + 2, lw, .int q.1 :: st))) = _ ∧ _
    obtain ⟨q, hq, hA1⟩ := oB_inv h
    simp only [Option.some.injEq, Prod.mk.injEq] at hA1
    obtain ⟨rfl, rfl, rfl⟩ := hA1
    exact ⟨_, (oB_mk hq rfl), hh⟩
  | ldc_w k =>
    change (oB (fnd (mki F) k) (fun q => some (pc + 3, lv, .int q.1 :: st))) = _ at h
    change ∃ l, (oB (fnd (mki F) k) (fun q => some (pc + 3, lw, .int q.1 :: st))) = _ ∧ _
    obtain ⟨q, hq, hA1⟩ := oB_inv h
    simp only [Option.some.injEq, Prod.mk.injEq] at hA1
    obtain ⟨rfl, rfl, rfl⟩ := hA1
    exact ⟨_, (oB_mk hq rfl), hh⟩
  | ldc2_w k =>
    change (oB (fnd (mkl F) k) (fun q => some (pc + 3, lv, .long q.1 :: st))) = _ at h
    change ∃ l, (oB (fnd (mkl F) k) (fun q => some (pc + 3, lw, .long q.1 :: st))) = _ ∧ _
    obtain ⟨q, hq, hA1⟩ := oB_inv h
    simp only [Option.some.injEq, Prod.mk.injEq] at hA1
    obtain ⟨rfl, rfl, rfl⟩ := hA1
    exact ⟨_, (oB_mk hq rfl), hh⟩
  | getfield k =>
    change (sR st (fun a r => oB (fnd (mfl F) k) (fun e => oB hh0[a]? (fun c => oC (c.1 == 0 && c.2.1 == e.1) (oB c.2.2[e.2.1]? (fun v => some (pc + 3, lv, v :: r))))))) = _ at h
    change ∃ l, (sR st (fun a r => oB (fnd (mfl F) k) (fun e => oB hh0[a]? (fun c => oC (c.1 == 0 && c.2.1 == e.1) (oB c.2.2[e.2.1]? (fun v => some (pc + 3, lw, v :: r))))))) = _ ∧ _
    obtain ⟨a, r, rfl, hA1⟩ := sR_inv h
    obtain ⟨e, he, hA2⟩ := oB_inv hA1
    obtain ⟨c, hc, hA3⟩ := oB_inv hA2
    obtain ⟨hc1, hA4⟩ := oC_inv hA3
    obtain ⟨v, hv, hA5⟩ := oB_inv hA4
    simp only [Option.some.injEq, Prod.mk.injEq] at hA5
    obtain ⟨rfl, rfl, rfl⟩ := hA5
    exact ⟨_, (oB_mk he (oB_mk hc (oC_mk hc1 (oB_mk hv rfl)))), hh⟩
  | iaload =>
    change (oB (ldR scr 1 0 0 st hh0) (fun q => oC (isI q.1) (some (pc + 1, lv, q.1 :: q.2)))) = _ at h
    change ∃ l, (oB (ldR scr 1 0 0 st hh0) (fun q => oC (isI q.1) (some (pc + 1, lw, q.1 :: q.2)))) = _ ∧ _
    obtain ⟨q, hq, hA1⟩ := oB_inv h
    obtain ⟨hc0, hA2⟩ := oC_inv hA1
    simp only [Option.some.injEq, Prod.mk.injEq] at hA2
    obtain ⟨rfl, rfl, rfl⟩ := hA2
    exact ⟨_, (oB_mk hq (oC_mk hc0 rfl)), hh⟩
  | baload =>
    change (oB (ldR none 1 2 3 st hh0) (fun q => oC (isI q.1) (some (pc + 1, lv, q.1 :: q.2)))) = _ at h
    change ∃ l, (oB (ldR none 1 2 3 st hh0) (fun q => oC (isI q.1) (some (pc + 1, lw, q.1 :: q.2)))) = _ ∧ _
    obtain ⟨q, hq, hA1⟩ := oB_inv h
    obtain ⟨hc0, hA2⟩ := oC_inv hA1
    simp only [Option.some.injEq, Prod.mk.injEq] at hA2
    obtain ⟨rfl, rfl, rfl⟩ := hA2
    exact ⟨_, (oB_mk hq (oC_mk hc0 rfl)), hh⟩
  | laload =>
    change (oB (ldR none 2 1 1 st hh0) (fun q => oC (isL q.1) (some (pc + 1, lv, q.1 :: q.2)))) = _ at h
    change ∃ l, (oB (ldR none 2 1 1 st hh0) (fun q => oC (isL q.1) (some (pc + 1, lw, q.1 :: q.2)))) = _ ∧ _
    obtain ⟨q, hq, hA1⟩ := oB_inv h
    obtain ⟨hc0, hA2⟩ := oC_inv hA1
    simp only [Option.some.injEq, Prod.mk.injEq] at hA2
    obtain ⟨rfl, rfl, rfl⟩ := hA2
    exact ⟨_, (oB_mk hq (oC_mk hc0 rfl)), hh⟩
  | aaload =>
    change (sRI st (fun a j r => oB hh0[a]? (fun c => oC (c.1 == 3 && (c.2.1 == 4 || c.2.1 == 5 || c.2.1 == 6) && decide (¬ j < 0)) (oB c.2.2[j.toNatClampNeg]? (fun v => oC (isR v) (some (pc + 1, lv, v :: r))))))) = _ at h
    change ∃ l, (sRI st (fun a j r => oB hh0[a]? (fun c => oC (c.1 == 3 && (c.2.1 == 4 || c.2.1 == 5 || c.2.1 == 6) && decide (¬ j < 0)) (oB c.2.2[j.toNatClampNeg]? (fun v => oC (isR v) (some (pc + 1, lw, v :: r))))))) = _ ∧ _
    obtain ⟨a, j, r, rfl, hA1⟩ := sRI_inv h
    obtain ⟨c, hc, hA2⟩ := oB_inv hA1
    obtain ⟨hc1, hA3⟩ := oC_inv hA2
    obtain ⟨v, hv, hA4⟩ := oB_inv hA3
    obtain ⟨hc2, hA5⟩ := oC_inv hA4
    simp only [Option.some.injEq, Prod.mk.injEq] at hA5
    obtain ⟨rfl, rfl, rfl⟩ := hA5
    exact ⟨_, (oB_mk hc (oC_mk hc1 (oB_mk hv (oC_mk hc2 rfl)))), hh⟩
  | arraylength =>
    change (sV st (fun v r => oB (alen scr hh0 v) (fun x => some (pc + 1, lv, .int x :: r)))) = _ at h
    change ∃ l, (sV st (fun v r => oB (alen scr hh0 v) (fun x => some (pc + 1, lw, .int x :: r)))) = _ ∧ _
    obtain ⟨v, r, rfl, hA1⟩ := sV_inv h
    obtain ⟨x, hx, hA2⟩ := oB_inv hA1
    simp only [Option.some.injEq, Prod.mk.injEq] at hA2
    obtain ⟨rfl, rfl, rfl⟩ := hA2
    exact ⟨_, (oB_mk hx rfl), hh⟩
  | _ => exact absurd h (by intro z; cases z)
set_option maxHeartbeats 4000000 in
theorem stpX_sub {F : MR} {i : Instr} {pc pc' : Nat} {lv lw lv' : ALv} {st st' : List Value} (hh : Has lw lv) (h : stpX F i pc lv st = some (pc', lv', st')) : ∃ l, stpX F i pc lw st = some (pc', l, st') ∧ Has l lv' := by
  cases i with
  | ldc k =>
    change (oB (fnd (mks F) k) (fun q => oC (q.1 == 0) (some (pc + 2, lv, .retAddr (2 * q.2.1 + 1) :: st)))) = _ at h
    change ∃ l, (oB (fnd (mks F) k) (fun q => oC (q.1 == 0) (some (pc + 2, lw, .retAddr (2 * q.2.1 + 1) :: st)))) = _ ∧ _
    obtain ⟨q, hq, hA1⟩ := oB_inv h
    obtain ⟨hc0, hA2⟩ := oC_inv hA1
    simp only [Option.some.injEq, Prod.mk.injEq] at hA2
    obtain ⟨rfl, rfl, rfl⟩ := hA2
    exact ⟨_, (oB_mk hq (oC_mk hc0 rfl)), hh⟩
  | getfield k =>
    change (sX st (fun a r => oB (fnd (mks F) k) (fun q => oC (a % 2 == 1 && decide (a / 2 < NSTR)) (oC (q.1 == 1 || q.1 == 2) (some (pc + 3, lv, (if q.1 = 1 then .retAddr (2 * (a / 2) + 2) else .int 0) :: r)))))) = _ at h
    change ∃ l, (sX st (fun a r => oB (fnd (mks F) k) (fun q => oC (a % 2 == 1 && decide (a / 2 < NSTR)) (oC (q.1 == 1 || q.1 == 2) (some (pc + 3, lw, (if q.1 = 1 then .retAddr (2 * (a / 2) + 2) else .int 0) :: r)))))) = _ ∧ _
    obtain ⟨a, r, rfl, hA1⟩ := sX_inv h
    obtain ⟨q, hq, hA2⟩ := oB_inv hA1
    obtain ⟨hc0, hA3⟩ := oC_inv hA2
    obtain ⟨hc1, hA4⟩ := oC_inv hA3
    simp only [Option.some.injEq, Prod.mk.injEq] at hA4
    obtain ⟨rfl, rfl, rfl⟩ := hA4
    exact ⟨_, (oB_mk hq (oC_mk hc0 (oC_mk hc1 rfl))), hh⟩
  | getstatic k =>
    change (oB (fnd (mks F) k) (fun q => oC (q.1 == 3 || q.1 == 4) (some (pc + 3, lv, (if q.1 = 3 then .int 1 else .float 0) :: st)))) = _ at h
    change ∃ l, (oB (fnd (mks F) k) (fun q => oC (q.1 == 3 || q.1 == 4) (some (pc + 3, lw, (if q.1 = 3 then .int 1 else .float 0) :: st)))) = _ ∧ _
    obtain ⟨q, hq, hA1⟩ := oB_inv h
    obtain ⟨hc0, hA2⟩ := oC_inv hA1
    simp only [Option.some.injEq, Prod.mk.injEq] at hA2
    obtain ⟨rfl, rfl, rfl⟩ := hA2
    exact ⟨_, (oB_mk hq (oC_mk hc0 rfl)), hh⟩
  | arraylength =>
    change (sX st (fun a r => oC (a % 2 == 0 && decide (2 ≤ a) && decide (a / 2 - 1 < NSTR)) (some (pc + 1, lv, .int (Int32.ofNat (LENS.getD (a / 2 - 1) 0)) :: r)))) = _ at h
    change ∃ l, (sX st (fun a r => oC (a % 2 == 0 && decide (2 ≤ a) && decide (a / 2 - 1 < NSTR)) (some (pc + 1, lw, .int (Int32.ofNat (LENS.getD (a / 2 - 1) 0)) :: r)))) = _ ∧ _
    obtain ⟨a, r, rfl, hA1⟩ := sX_inv h
    obtain ⟨hc0, hA2⟩ := oC_inv hA1
    simp only [Option.some.injEq, Prod.mk.injEq] at hA2
    obtain ⟨rfl, rfl, rfl⟩ := hA2
    exact ⟨_, (oC_mk hc0 rfl), hh⟩
  | baload =>
    change (sIX st (fun a j r => oC (a % 2 == 0 && decide (2 ≤ a) && decide (a / 2 - 1 < NSTR) && decide (¬ j < 0) && decide (j.toNatClampNeg < LENS.getD (a / 2 - 1) 0)) (some (pc + 1, lv, .int ((BYT.getD (a / 2 - 1) []).getD j.toNatClampNeg 0) :: r)))) = _ at h
    change ∃ l, (sIX st (fun a j r => oC (a % 2 == 0 && decide (2 ≤ a) && decide (a / 2 - 1 < NSTR) && decide (¬ j < 0) && decide (j.toNatClampNeg < LENS.getD (a / 2 - 1) 0)) (some (pc + 1, lw, .int ((BYT.getD (a / 2 - 1) []).getD j.toNatClampNeg 0) :: r)))) = _ ∧ _
    obtain ⟨a, j, r, rfl, hA1⟩ := sIX_inv h
    obtain ⟨hc0, hA2⟩ := oC_inv hA1
    simp only [Option.some.injEq, Prod.mk.injEq] at hA2
    obtain ⟨rfl, rfl, rfl⟩ := hA2
    exact ⟨_, (oC_mk hc0 rfl), hh⟩
  | i2c =>
    change (sI st (fun x r => some (pc + 1, lv, .int (x.toUInt32 % 65536).toInt32 :: r))) = _ at h
    change ∃ l, (sI st (fun x r => some (pc + 1, lw, .int (x.toUInt32 % 65536).toInt32 :: r))) = _ ∧ _
    obtain ⟨x, r, rfl, hA1⟩ := sI_inv h
    simp only [Option.some.injEq, Prod.mk.injEq] at hA1
    obtain ⟨rfl, rfl, rfl⟩ := hA1
    exact ⟨_, rfl, hh⟩
  | _ => exact absurd h (by intro z; cases z)
set_option maxHeartbeats 4000000 in
theorem stpP_none {F : MR} {scr : AS} {i : Instr} {tgt pc pc' : Nat} {lv lw lv' : ALv} {st st' : List Value} {hh0 : AH} (hX : stpX F i pc lv st = some (pc', lv', st')) (hn : stpP F scr i tgt pc lv st hh0 = none) : stpP F scr i tgt pc lw st hh0 = none := by
  cases hp : stpP F scr i tgt pc lw st hh0 with
  | none => rfl
  | some z =>
    exfalso
    cases i with
    | ldc k =>
      change (oB (fnd (mki F) k) (fun q => some (pc + 2, lw, .int q.1 :: st))) = _ at hp
      change (oB (fnd (mki F) k) (fun q => some (pc + 2, lv, .int q.1 :: st))) = _ at hn
      obtain ⟨q, hq, hB1⟩ := oB_inv hp
      exact absurd (hn.symm.trans (oB_mk hq rfl)) (by intro q; cases q)
    | getfield k =>
      change (sR st (fun a r => oB (fnd (mfl F) k) (fun e => oB hh0[a]? (fun c => oC (c.1 == 0 && c.2.1 == e.1) (oB c.2.2[e.2.1]? (fun v => some (pc + 3, lw, v :: r))))))) = _ at hp
      change (sR st (fun a r => oB (fnd (mfl F) k) (fun e => oB hh0[a]? (fun c => oC (c.1 == 0 && c.2.1 == e.1) (oB c.2.2[e.2.1]? (fun v => some (pc + 3, lv, v :: r))))))) = _ at hn
      obtain ⟨a, r, rfl, hB1⟩ := sR_inv hp
      obtain ⟨e, he, hB2⟩ := oB_inv hB1
      obtain ⟨c, hc, hB3⟩ := oB_inv hB2
      obtain ⟨hc1, hB4⟩ := oC_inv hB3
      obtain ⟨v, hv, hB5⟩ := oB_inv hB4
      exact absurd (hn.symm.trans (oB_mk he (oB_mk hc (oC_mk hc1 (oB_mk hv rfl))))) (by intro q; cases q)
    | getstatic k => exact absurd hp (by intro q; cases q)
    | arraylength =>
      change (sV st (fun v r => oB (alen scr hh0 v) (fun x => some (pc + 1, lw, .int x :: r)))) = _ at hp
      change (sV st (fun v r => oB (alen scr hh0 v) (fun x => some (pc + 1, lv, .int x :: r)))) = _ at hn
      obtain ⟨v, r, rfl, hB1⟩ := sV_inv hp
      obtain ⟨x, hx, hB2⟩ := oB_inv hB1
      exact absurd (hn.symm.trans (oB_mk hx rfl)) (by intro q; cases q)
    | baload =>
      change (oB (ldR none 1 2 3 st hh0) (fun q => oC (isI q.1) (some (pc + 1, lw, q.1 :: q.2)))) = _ at hp
      change (oB (ldR none 1 2 3 st hh0) (fun q => oC (isI q.1) (some (pc + 1, lv, q.1 :: q.2)))) = _ at hn
      obtain ⟨q, hq, hB1⟩ := oB_inv hp
      obtain ⟨hc0, hB2⟩ := oC_inv hB1
      exact absurd (hn.symm.trans (oB_mk hq (oC_mk hc0 rfl))) (by intro q; cases q)
    | i2c => exact absurd hp (by intro q; cases q)
    | _ => exact absurd hX (by intro q; cases q)
theorem am_sub {MT : Nat → Option MR} : ∀ (n fr lo : Nat) (scr : AS) (F : MR) (pc : Nat) (lv lw : ALv) (st : List Value) (h : AH) (x : Option Value × AH), Has lw lv → am MT n fr lo scr F pc lv st h = some x → am MT n fr lo scr F pc lw st h = some x := by
  intro n
  induction n with
  | zero => intro fr lo scr F pc lv lw st h x _ hx; cases hx
  | succ n ih =>
    intro fr lo scr F pc lv lw st h x hh hx
    rw [am_s] at hx ⊢
    unfold amB at hx ⊢
    obtain ⟨q, hq, h1⟩ := oB_inv hx
    refine oB_mk hq ?_
    split at h1
    · obtain ⟨y, hy, h2⟩ := oB_inv h1
      rcases stpA_inv hy with hy | ⟨hn, hy⟩
      · obtain ⟨l, hl, hs⟩ := stpP_sub hh hy
        exact oB_mk (stpA_P hl) (ih _ _ _ _ _ _ _ _ _ _ hs h2)
      · obtain ⟨l, hl, hs⟩ := stpX_sub hh hy
        exact oB_mk (a := (y.1, l, y.2.2)) (by unfold stpA; rw [stpP_none hy hn]; exact hl) (ih _ _ _ _ _ _ _ _ _ _ hs h2)
    · obtain ⟨y, hy, h2⟩ := oB_inv h1
      exact oB_mk hy (ih _ _ _ _ _ _ _ _ _ _ hh h2)
    · obtain ⟨y, hy, h2⟩ := oB_inv h1
      exact oB_mk hy (ih _ _ _ _ _ _ _ _ _ _ hh h2)
    · obtain ⟨y, hy, h2⟩ := oB_inv h1
      obtain ⟨h3, h4⟩ := oC_inv h2
      refine oB_mk hy (oC_mk h3 ?_)
      unfold amC at h4 ⊢
      split at h4
      · obtain ⟨z, hz, h5⟩ := oB_inv h4
        obtain ⟨h6, h7⟩ := oC_inv h5
        exact oB_mk hz (oC_mk h6 (ih _ _ _ _ _ _ _ _ _ _ hh h7))
      · unfold sR at h4 ⊢
        split at h4
        · obtain ⟨h6, h7⟩ := oC_inv h4
          exact oC_mk h6 (ih _ _ _ _ _ _ _ _ _ _ hh h7)
        · cases h4
      · obtain ⟨G, hG, h5⟩ := oB_inv h4
        obtain ⟨h6, h7⟩ := oC_inv h5
        obtain ⟨z, hz, h8⟩ := oB_inv h7
        exact oB_mk hG (oC_mk h6 (oB_mk hz (ih _ _ _ _ _ _ _ _ _ _ hh h8)))
    · exact h1
def HasL (l1 : ALv) : ALv → Prop
  | [] => True
  | q :: t => fnd l1 q.1 = some q.2 ∧ HasL l1 t
theorem HasL_ok {l1 l2 : ALv} (h : HasL l1 l2) : Has l1 l2 := by
  induction l2 with
  | nil => intro q hq; cases hq
  | cons q t ih =>
    intro p hp
    rcases List.mem_cons.mp hp with rfl | hp
    · exact h.1
    · exact ih h.2 p hp
theorem En_lv {fr lo : Nat} {scr : AS} {F : MR} {P : PO} {pc : Nat} {lv lw : ALv} {st : List Value} {σ : SG} (hs : HasL lw lv) (k : En fr lo scr F P pc lv st σ) : En fr lo scr F P pc lw st σ := by
  obtain ⟨v, σ', ⟨n, hn⟩, hp⟩ := k
  exact ⟨v, σ', ⟨n, am_sub n _ _ _ _ _ _ _ _ _ _ (HasL_ok hs) hn⟩, hp⟩
end
