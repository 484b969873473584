set_option maxRecDepth 20000 in
theorem gL_law_X18_addConstructor : GoodIn wsL_law (wsV RL 150 RX18 yX18_addConstructor wsX18_addConstructor) := goodIn_app (goodIn_of _ (by decide +kernel)) ggL_law_X18_addConstructor
set_option maxRecDepth 20000 in
theorem ggL_law_L_term : GoodIn wsL_law wsL_term := goodIn_ca (goodIn_ca (goodIn_ca (goodIn_ca (goodIn_r _ [284, 244, 245, 211, 285, 286, 287, 2, 288, 250, 251, 252, 253, 216, 217, 17, 289, 290, 291, 16, 292, 46, 266, 267, 268, 45, 269, 58, 293, 294, 295, 296, 297, 298, 299, 300, 301, 302, 303, 304, 54, 57, 305, 306, 307, 308, 47, 309, 310, 311, 312, 313, 314, 315, 316, 317, 318, 319, 320, 321, 322, 323, 324, 325, 326, 327, 328, 329, 330, 331, 332, 48, 49, 333, 334, 335, 336, 337, 338, 339, 59, 60, 61, 62, 55, 63, 64, 65, 66, 67, 68, 69, 70, 71, 72, 56, 73, 74, 75, 76, 77, 78, 79, 80, 81, 82, 83, 84, 85, 86, 87, 88, 89, 90, 91, 92, 93, 94, 95, 96, 340, 341, 342, 343, 344, 1784, 1785, 1786, 1787, 1788, 1789, 1790, 1791, 1792, 1863, 1864, 1865, 1866, 1867, 1908, 1909, 1910, 1911, 1912, 1913, 1914, 1915, 1916, 1917, 1918, 1919, 1920] (by decide +kernel) (by decide +kernel)) (goodIn_sub (fun _ h => List.mem_append_left _ (List.mem_append_left _ (List.mem_append_left _ (List.mem_append_left _ (List.mem_append_left _ (List.mem_append_left _ (List.mem_append_right _ h))))))) (by decide +kernel))) (goodIn_sub (fun _ h => List.mem_append_left _ (List.mem_append_left _ (List.mem_append_left _ (List.mem_append_left _ (List.mem_append_right _ h))))) (by decide +kernel))) (goodIn_sub (fun _ h => List.mem_append_left _ (List.mem_append_left _ (List.mem_append_left _ (List.mem_append_right _ h)))) (by decide +kernel))) (goodIn_sub (fun _ h => List.mem_append_left _ (List.mem_append_left _ (List.mem_append_left _ (List.mem_append_left _ (List.mem_append_left _ (List.mem_append_right _ h)))))) (by decide +kernel))
set_option maxRecDepth 20000 in
theorem gL_law_L_term : GoodIn wsL_law (va_wsS RL 151 yL_term wsL_term) := goodIn_app (goodIn_of _ (by decide +kernel)) ggL_law_L_term
set_option maxRecDepth 20000 in
theorem ggL_law_X18_term : GoodIn wsL_law wsX18_term := goodIn_ca (goodIn_r _ [348, 230, 278, 167, 279, 280, 5, 281, 349, 350, 351, 352, 353, 354, 355, 356, 357, 233, 234, 235, 236, 358, 359, 360, 361, 166, 168, 362, 363, 364, 365, 169, 170, 1793, 1794, 1795, 1796, 1797, 1798, 1799, 1800, 1801, 1802, 1803, 1804, 1805, 1806, 1807, 1808, 1809, 1810, 1811, 1812, 1813, 1814, 1815, 1816, 1817, 1818, 1819, 1820, 1821, 1822, 1823, 1824, 1825, 1826, 1827, 1828, 1829, 1830, 1831, 1832, 1833, 1834, 1835, 1836, 1837, 1838, 1839, 1840, 1841, 1842, 1843, 1844, 1845, 1846, 1847, 1848, 1849, 1850, 1851, 1852, 1853, 1854, 1855, 1856, 1857, 1858, 1859, 1860, 1861, 1862] (by decide +kernel) (by decide +kernel)) (goodIn_sub (fun _ h => List.mem_append_left _ (List.mem_append_left _ (List.mem_append_left _ (List.mem_append_left _ (List.mem_append_left _ (List.mem_append_left _ (List.mem_append_right _ h))))))) (by decide +kernel))
set_option maxRecDepth 20000 in
theorem gL_law_X18_term : GoodIn wsL_law (wsV RL 153 RX18 yX18_term wsX18_term) := goodIn_app (goodIn_of _ (by decide +kernel)) ggL_law_X18_term
set_option maxRecDepth 20000 in
theorem ggL_law_L_constructorOf : GoodIn wsL_law wsL_constructorOf := goodIn_ca (goodIn_ca (goodIn_r _ [368, 244, 369, 370, 371, 2, 372, 17, 373, 374, 375, 376, 250, 251, 377, 306, 307, 16, 308, 47, 266, 267, 268, 45, 269, 58, 378, 322, 323, 324, 301, 302, 303, 304, 54, 57, 1784, 1785, 1786, 1787, 1788, 1789, 1790, 1791, 1792, 1863, 1864, 1865, 1866, 1867, 1908, 1909, 1910] (by decide +kernel) (by decide +kernel)) (goodIn_sub (fun _ h => List.mem_append_left _ (List.mem_append_left _ (List.mem_append_left _ (List.mem_append_left _ (List.mem_append_left _ (List.mem_append_left _ (List.mem_append_right _ h))))))) (by decide +kernel))) (goodIn_sub (fun _ h => List.mem_append_left _ (List.mem_append_left _ (List.mem_append_left _ (List.mem_append_left _ (List.mem_append_right _ h))))) (by decide +kernel))
set_option maxRecDepth 20000 in
theorem gL_law_L_constructorOf : GoodIn wsL_law (va_wsS RL 154 yL_constructorOf wsL_constructorOf) := goodIn_app (goodIn_of _ (by decide +kernel)) ggL_law_L_constructorOf
set_option maxRecDepth 20000 in
theorem ggL_law_X18_constructorOf : GoodIn wsL_law wsX18_constructorOf := goodIn_ca (goodIn_r _ [382, 230, 168, 353, 354, 355, 5, 356, 357, 279, 280, 281, 233, 234, 235, 236, 1793, 1794, 1795, 1796, 1797, 1798, 1799, 1800, 1801, 1802, 1803, 1804, 1805, 1806, 1807, 1808, 1809, 1810, 1811, 1812, 1813, 1814, 1815, 1816, 1817, 1818, 1819, 1820, 1821, 1822, 1823, 1824, 1825, 1826, 1827, 1828, 1829, 1830, 1831, 1832, 1833, 1834, 1835, 1836, 1837, 1838, 1839, 1840, 1841, 1842, 1843, 1844, 1845, 1846, 1847, 1848, 1849, 1850, 1851, 1852, 1853, 1854, 1855, 1856, 1857, 1858, 1859, 1860, 1861, 1862] (by decide +kernel) (by decide +kernel)) (goodIn_sub (fun _ h => List.mem_append_left _ (List.mem_append_left _ (List.mem_append_left _ (List.mem_append_left _ (List.mem_append_left _ (List.mem_append_left _ (List.mem_append_right _ h))))))) (by decide +kernel))
set_option maxRecDepth 20000 in
theorem gL_law_X18_constructorOf : GoodIn wsL_law (wsV RL 157 RX18 yX18_constructorOf wsX18_constructorOf) := goodIn_app (goodIn_of _ (by decide +kernel)) ggL_law_X18_constructorOf
set_option maxRecDepth 20000 in
theorem ggL_law_L_partOf : GoodIn wsL_law wsL_partOf := goodIn_ca (goodIn_ca (goodIn_ca (goodIn_r _ [385, 244, 386, 387, 388, 389, 2, 390, 391, 392, 17, 373, 374, 375, 376, 250, 251, 377, 306, 307, 16, 308, 47, 266, 267, 268, 45, 269, 58, 378, 322, 323, 324, 301, 302, 303, 304, 54, 57, 393, 298, 299, 300, 46, 394, 395, 396, 397, 1784, 1785, 1786, 1787, 1788, 1789, 1790, 1791, 1792, 1863, 1864, 1865, 1866, 1867, 1908, 1909, 1910] (by decide +kernel) (by decide +kernel)) (goodIn_sub (fun _ h => List.mem_append_left _ (List.mem_append_left _ (List.mem_append_left _ (List.mem_append_left _ (List.mem_append_left _ (List.mem_append_left _ (List.mem_append_right _ h))))))) (by decide +kernel))) (goodIn_sub (fun _ h => List.mem_append_left _ (List.mem_append_left _ (List.mem_append_right _ h))) (by decide +kernel))) (goodIn_sub (fun _ h => List.mem_append_left _ (List.mem_append_left _ (List.mem_append_left _ (List.mem_append_left _ (List.mem_append_right _ h))))) (by decide +kernel))
set_option maxRecDepth 20000 in
theorem gL_law_L_partOf : GoodIn wsL_law (va_wsS RL 158 yL_partOf wsL_partOf) := goodIn_app (goodIn_of _ (by decide +kernel)) ggL_law_L_partOf
set_option maxRecDepth 20000 in
theorem ggL_law_X18_partOf : GoodIn wsL_law wsX18_partOf := goodIn_ca (goodIn_r _ [401, 230, 168, 169, 353, 354, 355, 5, 356, 357, 279, 280, 281, 233, 234, 235, 236, 349, 350, 351, 352, 167, 1793, 1794, 1795, 1796, 1797, 1798, 1799, 1800, 1801, 1802, 1803, 1804, 1805, 1806, 1807, 1808, 1809, 1810, 1811, 1812, 1813, 1814, 1815, 1816, 1817, 1818, 1819, 1820, 1821, 1822, 1823, 1824, 1825, 1826, 1827, 1828, 1829, 1830, 1831, 1832, 1833, 1834, 1835, 1836, 1837, 1838, 1839, 1840, 1841, 1842, 1843, 1844, 1845, 1846, 1847, 1848, 1849, 1850, 1851, 1852, 1853, 1854, 1855, 1856, 1857, 1858, 1859, 1860, 1861, 1862] (by decide +kernel) (by decide +kernel)) (goodIn_sub (fun _ h => List.mem_append_left _ (List.mem_append_left _ (List.mem_append_left _ (List.mem_append_left _ (List.mem_append_left _ (List.mem_append_left _ (List.mem_append_right _ h))))))) (by decide +kernel))
set_option maxRecDepth 20000 in
theorem gL_law_X18_partOf : GoodIn wsL_law (wsV RL 161 RX18 yX18_partOf wsX18_partOf) := goodIn_app (goodIn_of _ (by decide +kernel)) ggL_law_X18_partOf
set_option maxRecDepth 20000 in
theorem ggL_law_L_sizeOf : GoodIn wsL_law wsL_sizeOf := goodIn_ca (goodIn_ca (goodIn_r _ [404, 244, 405, 406, 407, 2, 408, 17, 373, 374, 375, 376, 250, 251, 377, 306, 307, 16, 308, 47, 266, 267, 268, 45, 269, 58, 409, 342, 343, 344, 49, 1784, 1785, 1786, 1787, 1788, 1789, 1790, 1791, 1792, 1863, 1864, 1865, 1866, 1867, 1908, 1909, 1910] (by decide +kernel) (by decide +kernel)) (goodIn_sub (fun _ h => List.mem_append_left _ (List.mem_append_left _ (List.mem_append_left _ (List.mem_append_left _ (List.mem_append_left _ (List.mem_append_left _ (List.mem_append_right _ h))))))) (by decide +kernel))) (goodIn_sub (fun _ h => List.mem_append_left _ (List.mem_append_left _ (List.mem_append_left _ (List.mem_append_left _ (List.mem_append_right _ h))))) (by decide +kernel))
set_option maxRecDepth 20000 in
theorem gL_law_L_sizeOf : GoodIn wsL_law (va_wsS RL 162 yL_sizeOf wsL_sizeOf) := goodIn_app (goodIn_of _ (by decide +kernel)) ggL_law_L_sizeOf
set_option maxRecDepth 20000 in
theorem ggL_law_X18_sizeOf : GoodIn wsL_law wsX18_sizeOf := goodIn_ca (goodIn_r _ [413, 230, 170, 353, 354, 355, 5, 356, 357, 279, 280, 281, 1793, 1794, 1795, 1796, 1797, 1798, 1799, 1800, 1801, 1802, 1803, 1804, 1805, 1806, 1807, 1808, 1809, 1810, 1811, 1812, 1813, 1814, 1815, 1816, 1817, 1818, 1819, 1820, 1821, 1822, 1823, 1824, 1825, 1826, 1827, 1828, 1829, 1830, 1831, 1832, 1833, 1834, 1835, 1836, 1837, 1838, 1839, 1840, 1841, 1842, 1843, 1844, 1845, 1846, 1847, 1848, 1849, 1850, 1851, 1852, 1853, 1854, 1855, 1856, 1857, 1858, 1859, 1860, 1861, 1862] (by decide +kernel) (by decide +kernel)) (goodIn_sub (fun _ h => List.mem_append_left _ (List.mem_append_left _ (List.mem_append_left _ (List.mem_append_left _ (List.mem_append_left _ (List.mem_append_left _ (List.mem_append_right _ h))))))) (by decide +kernel))
set_option maxRecDepth 20000 in
theorem gL_law_X18_sizeOf : GoodIn wsL_law (wsV RL 164 RX18 yX18_sizeOf wsX18_sizeOf) := goodIn_app (goodIn_of _ (by decide +kernel)) ggL_law_X18_sizeOf
set_option maxRecDepth 20000 in
theorem ggL_law_L_addPredicate : GoodIn wsL_law wsL_addPredicate := goodIn_ca (goodIn_ca (goodIn_ca (goodIn_ca (goodIn_r _ [416, 244, 245, 211, 417, 418, 419, 2, 420, 250, 251, 252, 253, 216, 217, 21, 35, 258, 259, 260, 261, 17, 254, 255, 256, 16, 257, 42, 421, 422, 423, 20, 424, 104, 425, 426, 427, 103, 428, 429, 430, 431, 432, 433, 434, 435, 436, 437, 438, 439, 440, 12, 13, 441, 442, 44, 45, 443, 444, 102, 445, 446, 447, 448, 449, 450, 451, 51, 52, 53, 54, 55, 56, 57, 58, 452, 453, 454, 60, 61, 62, 63, 64, 65, 66, 67, 68, 69, 70, 71, 72, 73, 74, 75, 76, 77, 78, 79, 80, 81, 82, 83, 84, 85, 86, 87, 88, 89, 90, 91, 92, 93, 94, 95, 96, 455, 108, 109, 110, 111, 112, 113, 114, 115, 116, 117, 118, 119, 120, 121, 456, 457, 458, 459, 460, 461, 462, 463, 464, 465, 466, 467, 468, 469, 470, 471, 472, 473, 474, 475, 476, 477, 478, 479, 480, 481, 482, 483, 484, 485, 486, 487, 488, 489, 490, 491, 492, 493, 494, 495, 496, 497, 498, 499, 500, 501, 502, 503, 504, 505, 506, 1784, 1785, 1786, 1787, 1788, 1789, 1790, 1791, 1792, 1863, 1864, 1865, 1866, 1867, 1868, 1869, 1870, 1921, 1922, 1923, 1924, 1925, 1926, 1927, 1928, 1908, 1909, 1910, 1929, 1930, 1931, 1932, 1911, 1912, 1913, 1914, 1915, 1916, 1917, 1918, 1919, 1920] (by decide +kernel) (by decide +kernel)) (goodIn_sub (fun _ h => List.mem_append_left _ (List.mem_append_left _ (List.mem_append_left _ (List.mem_append_left _ (List.mem_append_left _ (List.mem_append_left _ (List.mem_append_right _ h))))))) (by decide +kernel))) (goodIn_sub (fun _ h => List.mem_append_left _ (List.mem_append_left _ (List.mem_append_left _ (List.mem_append_left _ (List.mem_append_right _ h))))) (by decide +kernel))) (goodIn_sub (fun _ h => List.mem_append_left _ (List.mem_append_left _ (List.mem_append_left _ (List.mem_append_right _ h)))) (by decide +kernel))) (goodIn_sub (fun _ h => List.mem_append_left _ (List.mem_append_left _ (List.mem_append_left _ (List.mem_append_left _ (List.mem_append_left _ (List.mem_append_right _ h)))))) (by decide +kernel))
set_option maxRecDepth 20000 in
theorem gL_law_L_addPredicate : GoodIn wsL_law (va_wsS RL 165 yL_addPredicate wsL_addPredicate) := goodIn_app (goodIn_of _ (by decide +kernel)) ggL_law_L_addPredicate
set_option maxRecDepth 20000 in
theorem ggL_law_X18_addPredicate : GoodIn wsL_law wsX18_addPredicate := goodIn_ca (goodIn_r _ [510, 230, 231, 511, 232, 172, 171, 279, 280, 5, 281, 233, 234, 235, 236, 1793, 1794, 1795, 1796, 1797, 1798, 1799, 1800, 1801, 1802, 1803, 1804, 1805, 1806, 1807, 1808, 1809, 1810, 1811, 1812, 1813, 1814, 1815, 1816, 1817, 1818, 1819, 1820, 1821, 1822, 1823, 1824, 1825, 1826, 1827, 1828, 1829, 1830, 1831, 1832, 1833, 1834, 1835, 1836, 1837, 1838, 1839, 1840, 1841, 1842, 1843, 1844, 1845, 1846, 1847, 1848, 1849, 1850, 1851, 1852, 1853, 1854, 1855, 1856, 1857, 1858, 1859, 1860, 1861, 1862] (by decide +kernel) (by decide +kernel)) (goodIn_sub (fun _ h => List.mem_append_left _ (List.mem_append_left _ (List.mem_append_left _ (List.mem_append_left _ (List.mem_append_left _ (List.mem_append_left _ (List.mem_append_right _ h))))))) (by decide +kernel))
set_option maxRecDepth 20000 in
theorem gL_law_X18_addPredicate : GoodIn wsL_law (wsV RL 167 RX18 yX18_addPredicate wsX18_addPredicate) := goodIn_app (goodIn_of _ (by decide +kernel)) ggL_law_X18_addPredicate
set_option maxRecDepth 20000 in
theorem ggL_law_L_addMode : GoodIn wsL_law wsL_addMode := goodIn_ca (goodIn_ca (goodIn_ca (goodIn_ca (goodIn_r _ [514, 244, 245, 211, 515, 516, 517, 2, 518, 250, 251, 252, 253, 216, 217, 21, 35, 519, 520, 521, 20, 522, 104, 523, 425, 426, 427, 103, 428, 429, 524, 525, 526, 527, 528, 529, 530, 531, 532, 533, 534, 535, 536, 537, 538, 539, 111, 540, 541, 542, 436, 543, 443, 544, 267, 268, 45, 269, 58, 545, 546, 547, 548, 549, 550, 551, 445, 552, 553, 554, 555, 556, 557, 558, 559, 105, 560, 561, 562, 563, 12, 13, 564, 565, 566, 567, 568, 464, 465, 466, 467, 468, 469, 470, 471, 472, 473, 474, 475, 476, 477, 478, 479, 480, 481, 110, 482, 483, 75, 484, 485, 486, 487, 488, 489, 490, 491, 492, 493, 494, 495, 496, 65, 497, 498, 499, 500, 501, 502, 503, 504, 505, 506, 73, 74, 76, 77, 78, 79, 80, 1784, 1785, 1786, 1787, 1788, 1789, 1790, 1791, 1792, 1868, 1869, 1870, 1921, 1922, 1923, 1924, 1925, 1926, 1927, 1928, 1908, 1909, 1910, 1933, 1934, 1935, 1936, 1937, 1938, 1939, 1940, 1941] (by decide +kernel) (by decide +kernel)) (goodIn_sub (fun _ h => List.mem_append_left _ (List.mem_append_left _ (List.mem_append_left _ (List.mem_append_left _ (List.mem_append_left _ (List.mem_append_left _ (List.mem_append_right _ h))))))) (by decide +kernel))) (goodIn_sub (fun _ h => List.mem_append_left _ (List.mem_append_left _ (List.mem_append_left _ (List.mem_append_left _ (List.mem_append_right _ h))))) (by decide +kernel))) (goodIn_sub (fun _ h => List.mem_append_left _ (List.mem_append_left _ (List.mem_append_left _ (List.mem_append_right _ h)))) (by decide +kernel))) (goodIn_sub (fun _ h => List.mem_append_left _ (List.mem_append_left _ (List.mem_append_left _ (List.mem_append_left _ (List.mem_append_left _ (List.mem_append_right _ h)))))) (by decide +kernel))
set_option maxRecDepth 20000 in
theorem gL_law_L_addMode : GoodIn wsL_law (va_wsS RL 168 yL_addMode wsL_addMode) := goodIn_app (goodIn_of _ (by decide +kernel)) ggL_law_L_addMode
set_option maxRecDepth 20000 in
theorem ggL_law_X18_addMode : GoodIn wsL_law wsX18_addMode := goodIn_ca (goodIn_r _ [572, 230, 171, 173, 232, 174, 176, 573, 574, 575, 5, 576, 511, 279, 280, 281, 233, 234, 235, 236, 1793, 1794, 1795, 1796, 1797, 1798, 1799, 1800, 1801, 1802, 1803, 1804, 1805, 1806, 1807, 1808, 1809, 1810, 1811, 1812, 1813, 1814, 1815, 1816, 1817, 1818, 1819, 1820, 1821, 1822, 1823, 1824, 1825, 1826, 1827, 1828, 1829, 1830, 1831, 1832, 1833, 1834, 1835, 1836, 1837, 1838, 1839, 1840, 1841, 1842, 1843, 1844, 1845, 1846, 1847, 1848, 1849, 1850, 1851, 1852, 1853, 1854, 1855, 1856, 1857, 1858, 1859, 1860, 1861, 1862] (by decide +kernel) (by decide +kernel)) (goodIn_sub (fun _ h => List.mem_append_left _ (List.mem_append_left _ (List.mem_append_left _ (List.mem_append_left _ (List.mem_append_left _ (List.mem_append_left _ (List.mem_append_right _ h))))))) (by decide +kernel))
set_option maxRecDepth 20000 in
theorem gL_law_X18_addMode : GoodIn wsL_law (wsV RL 171 RX18 yX18_addMode wsX18_addMode) := goodIn_app (goodIn_of _ (by decide +kernel)) ggL_law_X18_addMode
set_option maxRecDepth 20000 in
theorem ggL_law_L_addClause : GoodIn wsL_law wsL_addClause := goodIn_ca (goodIn_ca (goodIn_ca (goodIn_r _ [579, 244, 211, 580, 581, 582, 2, 583, 250, 251, 216, 217, 21, 35, 519, 520, 521, 20, 522, 104, 523, 425, 426, 427, 103, 428, 429, 524, 525, 526, 527, 528, 529, 530, 531, 532, 533, 534, 535, 536, 537, 538, 539, 111, 584, 585, 586, 587, 106, 588, 589, 590, 591, 592, 593, 594, 595, 596, 597, 598, 12, 13, 599, 600, 601, 44, 45, 602, 603, 102, 604, 56, 605, 606, 607, 608, 609, 610, 611, 612, 51, 52, 53, 54, 55, 57, 58, 613, 614, 615, 436, 616, 443, 617, 302, 303, 304, 618, 60, 61, 62, 63, 64, 65, 66, 67, 68, 69, 70, 71, 72, 73, 74, 75, 76, 77, 78, 79, 80, 81, 82, 83, 84, 85, 86, 87, 88, 89, 90, 91, 92, 93, 94, 95, 96, 619, 108, 109, 110, 112, 113, 114, 115, 116, 117, 118, 119, 120, 121, 464, 465, 466, 467, 468, 469, 470, 471, 472, 473, 474, 475, 476, 477, 478, 479, 480, 481, 482, 483, 484, 485, 486, 487, 488, 489, 490, 491, 492, 493, 494, 495, 496, 497, 498, 499, 500, 501, 502, 503, 504, 505, 506, 1784, 1785, 1786, 1787, 1788, 1789, 1790, 1791, 1792, 1868, 1869, 1870, 1921, 1922, 1923, 1942, 1943, 1944, 1945, 1946, 1947, 1948, 1949, 1950, 1924, 1925, 1926, 1927, 1928, 1908, 1909, 1910, 1911, 1912, 1913, 1914, 1915, 1916, 1917, 1918, 1919, 1920] (by decide +kernel) (by decide +kernel)) (goodIn_sub (fun _ h => List.mem_append_left _ (List.mem_append_left _ (List.mem_append_left _ (List.mem_append_left _ (List.mem_append_left _ (List.mem_append_left _ (List.mem_append_right _ h))))))) (by decide +kernel))) (goodIn_sub (fun _ h => List.mem_append_left _ (List.mem_append_left _ (List.mem_append_left _ (List.mem_append_left _ (List.mem_append_right _ h))))) (by decide +kernel))) (goodIn_sub (fun _ h => List.mem_append_left _ (List.mem_append_left _ (List.mem_append_left _ (List.mem_append_left _ (List.mem_append_left _ (List.mem_append_right _ h)))))) (by decide +kernel))
set_option maxRecDepth 20000 in
theorem gL_law_L_addClause : GoodIn wsL_law (va_wsS RL 172 yL_addClause wsL_addClause) := goodIn_app (goodIn_of _ (by decide +kernel)) ggL_law_L_addClause
set_option maxRecDepth 20000 in
theorem ggL_law_X18_addClause : GoodIn wsL_law wsX18_addClause := goodIn_ca (goodIn_r _ [623, 230, 624, 232, 177, 179, 171, 172, 573, 574, 575, 5, 576, 511, 279, 280, 281, 233, 234, 235, 236, 1793, 1794, 1795, 1796, 1797, 1798, 1799, 1800, 1801, 1802, 1803, 1804, 1805, 1806, 1807, 1808, 1809, 1810, 1811, 1812, 1813, 1814, 1815, 1816, 1817, 1818, 1819, 1820, 1821, 1822, 1823, 1824, 1825, 1826, 1827, 1828, 1829, 1830, 1831, 1832, 1833, 1834, 1835, 1836, 1837, 1838, 1839, 1840, 1841, 1842, 1843, 1844, 1845, 1846, 1847, 1848, 1849, 1850, 1851, 1852, 1853, 1854, 1855, 1856, 1857, 1858, 1859, 1860, 1861, 1862] (by decide +kernel) (by decide +kernel)) (goodIn_sub (fun _ h => List.mem_append_left _ (List.mem_append_left _ (List.mem_append_left _ (List.mem_append_left _ (List.mem_append_left _ (List.mem_append_left _ (List.mem_append_right _ h))))))) (by decide +kernel))
set_option maxRecDepth 20000 in
theorem gL_law_X18_addClause : GoodIn wsL_law (wsV RL 174 RX18 yX18_addClause wsX18_addClause) := goodIn_app (goodIn_of _ (by decide +kernel)) ggL_law_X18_addClause
set_option maxRecDepth 20000 in
theorem ggL_law_L_addBuild : GoodIn wsL_law wsL_addBuild := goodIn_ca (goodIn_ca (goodIn_ca (goodIn_ca (goodIn_r _ [627, 244, 245, 211, 628, 629, 630, 2, 631, 250, 251, 21, 17, 632, 448, 449, 633, 634, 635, 20, 636, 106, 637, 425, 426, 427, 103, 428, 429, 524, 525, 526, 527, 528, 529, 530, 531, 532, 533, 534, 535, 536, 537, 538, 539, 111, 289, 290, 291, 16, 292, 46, 266, 267, 268, 45, 269, 58, 638, 639, 640, 393, 298, 299, 300, 301, 302, 303, 304, 54, 57, 641, 457, 458, 459, 12, 13, 460, 461, 462, 56, 463, 642, 326, 327, 328, 643, 318, 319, 320, 644, 645, 646, 647, 252, 253, 216, 217, 35, 648, 649, 650, 651, 652, 653, 654, 655, 656, 657, 658, 594, 659, 452, 453, 660, 661, 662, 663, 664, 602, 665, 666, 667, 668, 669, 604, 670, 671, 672, 673, 674, 675, 94, 95, 96, 676, 465, 466, 467, 468, 469, 470, 471, 472, 473, 474, 475, 476, 477, 478, 479, 480, 481, 110, 482, 483, 75, 484, 485, 486, 487, 488, 489, 490, 491, 492, 493, 494, 495, 496, 65, 497, 498, 499, 500, 501, 502, 503, 504, 505, 506, 73, 74, 76, 77, 78, 79, 80, 1784, 1785, 1786, 1787, 1788, 1789, 1790, 1791, 1792, 1929, 1930, 1931, 1932, 1868, 1869, 1870, 1921, 1922, 1923, 1863, 1864, 1865, 1866, 1867, 1908, 1909, 1910, 1942, 1943, 1944, 1945, 1946, 1947, 1948, 1949, 1950] (by decide +kernel) (by decide +kernel)) (goodIn_sub (fun _ h => List.mem_append_left _ (List.mem_append_left _ (List.mem_append_left _ (List.mem_append_left _ (List.mem_append_left _ (List.mem_append_left _ (List.mem_append_right _ h))))))) (by decide +kernel))) (goodIn_sub (fun _ h => List.mem_append_left _ (List.mem_append_left _ (List.mem_append_left _ (List.mem_append_left _ (List.mem_append_right _ h))))) (by decide +kernel))) (goodIn_sub (fun _ h => List.mem_append_left _ (List.mem_append_left _ (List.mem_append_left _ (List.mem_append_right _ h)))) (by decide +kernel))) (goodIn_sub (fun _ h => List.mem_append_left _ (List.mem_append_left _ (List.mem_append_left _ (List.mem_append_left _ (List.mem_append_left _ (List.mem_append_right _ h)))))) (by decide +kernel))
set_option maxRecDepth 20000 in
theorem gL_law_L_addBuild : GoodIn wsL_law (va_wsS RL 175 yL_addBuild wsL_addBuild) := goodIn_app (goodIn_of _ (by decide +kernel)) ggL_law_L_addBuild
set_option maxRecDepth 20000 in
theorem ggL_law_X18_addBuild : GoodIn wsL_law wsX18_addBuild := goodIn_ca (goodIn_r _ [680, 230, 278, 166, 167, 681, 682, 683, 5, 684, 624, 279, 280, 281, 233, 234, 235, 236, 685, 686, 687, 688, 193, 179, 689, 690, 691, 692, 349, 350, 351, 352, 693, 694, 695, 696, 178, 232, 180, 181, 182, 1793, 1794, 1795, 1796, 1797, 1798, 1799, 1800, 1801, 1802, 1803, 1804, 1805, 1806, 1807, 1808, 1809, 1810, 1811, 1812, 1813, 1814, 1815, 1816, 1817, 1818, 1819, 1820, 1821, 1822, 1823, 1824, 1825, 1826, 1827, 1828, 1829, 1830, 1831, 1832, 1833, 1834, 1835, 1836, 1837, 1838, 1839, 1840, 1841, 1842, 1843, 1844, 1845, 1846, 1847, 1848, 1849, 1850, 1851, 1852, 1853, 1854, 1855, 1856, 1857, 1858, 1859, 1860, 1861, 1862] (by decide +kernel) (by decide +kernel)) (goodIn_sub (fun _ h => List.mem_append_left _ (List.mem_append_left _ (List.mem_append_left _ (List.mem_append_left _ (List.mem_append_left _ (List.mem_append_left _ (List.mem_append_right _ h))))))) (by decide +kernel))
set_option maxRecDepth 20000 in
theorem gL_law_X18_addBuild : GoodIn wsL_law (wsV RL 178 RX18 yX18_addBuild wsX18_addBuild) := goodIn_app (goodIn_of _ (by decide +kernel)) ggL_law_X18_addBuild
set_option maxRecDepth 20000 in
theorem ggL_law_L_addSame : GoodIn wsL_law wsL_addSame := goodIn_ca (goodIn_ca (goodIn_ca (goodIn_ca (goodIn_r _ [699, 244, 245, 211, 700, 701, 702, 2, 703, 250, 251, 252, 253, 21, 632, 448, 449, 633, 634, 635, 20, 636, 106, 637, 425, 426, 427, 103, 428, 429, 524, 525, 526, 527, 528, 529, 530, 531, 532, 533, 534, 535, 536, 537, 538, 539, 111, 638, 639, 640, 704, 662, 663, 594, 664, 602, 665, 302, 303, 45, 304, 54, 58, 57, 641, 457, 458, 459, 12, 13, 460, 461, 462, 56, 463, 644, 645, 646, 647, 216, 217, 35, 648, 649, 650, 651, 652, 653, 654, 655, 656, 657, 658, 659, 452, 453, 660, 661, 666, 667, 668, 669, 604, 670, 671, 672, 673, 674, 675, 94, 95, 96, 676, 465, 466, 467, 468, 469, 470, 471, 472, 473, 474, 475, 476, 477, 478, 479, 480, 481, 110, 482, 483, 75, 484, 485, 486, 487, 488, 489, 490, 491, 492, 493, 494, 495, 496, 65, 497, 498, 499, 500, 501, 502, 503, 504, 505, 506, 73, 74, 76, 77, 78, 79, 80, 1784, 1785, 1786, 1787, 1788, 1789, 1790, 1791, 1792, 1929, 1930, 1931, 1932, 1868, 1869, 1870, 1921, 1922, 1923, 1942, 1943, 1944, 1945, 1946, 1947, 1948, 1949, 1950, 1908, 1909, 1910] (by decide +kernel) (by decide +kernel)) (goodIn_sub (fun _ h => List.mem_append_left _ (List.mem_append_left _ (List.mem_append_left _ (List.mem_append_left _ (List.mem_append_left _ (List.mem_append_left _ (List.mem_append_right _ h))))))) (by decide +kernel))) (goodIn_sub (fun _ h => List.mem_append_left _ (List.mem_append_left _ (List.mem_append_left _ (List.mem_append_left _ (List.mem_append_right _ h))))) (by decide +kernel))) (goodIn_sub (fun _ h => List.mem_append_left _ (List.mem_append_left _ (List.mem_append_left _ (List.mem_append_right _ h)))) (by decide +kernel))) (goodIn_sub (fun _ h => List.mem_append_left _ (List.mem_append_left _ (List.mem_append_left _ (List.mem_append_left _ (List.mem_append_left _ (List.mem_append_right _ h)))))) (by decide +kernel))
set_option maxRecDepth 20000 in
theorem gL_law_L_addSame : GoodIn wsL_law (va_wsS RL 179 yL_addSame wsL_addSame) := goodIn_app (goodIn_of _ (by decide +kernel)) ggL_law_L_addSame
set_option maxRecDepth 20000 in
theorem ggL_law_X18_addSame : GoodIn wsL_law wsX18_addSame := goodIn_ca (goodIn_r _ [708, 230, 193, 681, 682, 683, 5, 684, 624, 279, 280, 281, 233, 234, 235, 236, 685, 686, 687, 688, 179, 689, 690, 691, 692, 693, 694, 695, 696, 178, 232, 180, 181, 182, 1793, 1794, 1795, 1796, 1797, 1798, 1799, 1800, 1801, 1802, 1803, 1804, 1805, 1806, 1807, 1808, 1809, 1810, 1811, 1812, 1813, 1814, 1815, 1816, 1817, 1818, 1819, 1820, 1821, 1822, 1823, 1824, 1825, 1826, 1827, 1828, 1829, 1830, 1831, 1832, 1833, 1834, 1835, 1836, 1837, 1838, 1839, 1840, 1841, 1842, 1843, 1844, 1845, 1846, 1847, 1848, 1849, 1850, 1851, 1852, 1853, 1854, 1855, 1856, 1857, 1858, 1859, 1860, 1861, 1862] (by decide +kernel) (by decide +kernel)) (goodIn_sub (fun _ h => List.mem_append_left _ (List.mem_append_left _ (List.mem_append_left _ (List.mem_append_left _ (List.mem_append_left _ (List.mem_append_left _ (List.mem_append_right _ h))))))) (by decide +kernel))
set_option maxRecDepth 20000 in
theorem gL_law_X18_addSame : GoodIn wsL_law (wsV RL 181 RX18 yX18_addSame wsX18_addSame) := goodIn_app (goodIn_of _ (by decide +kernel)) ggL_law_X18_addSame
set_option maxRecDepth 20000 in
theorem ggL_law_L_addCall : GoodIn wsL_law wsL_addCall := goodIn_ca (goodIn_ca (goodIn_ca (goodIn_ca (goodIn_r _ [711, 244, 245, 211, 712, 713, 714, 2, 715, 250, 251, 21, 632, 448, 449, 633, 634, 635, 20, 636, 106, 637, 425, 426, 427, 103, 428, 429, 524, 525, 526, 527, 528, 529, 530, 531, 532, 533, 534, 535, 536, 537, 538, 539, 111, 519, 520, 521, 522, 104, 523, 638, 639, 640, 716, 717, 718, 436, 719, 443, 544, 267, 268, 45, 269, 58, 641, 457, 458, 459, 12, 13, 460, 461, 462, 56, 463, 720, 614, 615, 616, 617, 302, 303, 304, 54, 57, 644, 645, 646, 647, 252, 253, 216, 217, 35, 648, 649, 650, 651, 652, 653, 654, 655, 656, 657, 658, 594, 659, 452, 453, 660, 661, 662, 663, 664, 602, 665, 666, 667, 668, 669, 604, 670, 671, 672, 673, 674, 675, 94, 95, 96, 676, 465, 466, 467, 468, 469, 470, 471, 472, 473, 474, 475, 476, 477, 478, 479, 480, 481, 110, 482, 483, 75, 484, 485, 486, 487, 488, 489, 490, 491, 492, 493, 494, 495, 496, 65, 497, 498, 499, 500, 501, 502, 503, 504, 505, 506, 73, 74, 76, 77, 78, 79, 80, 1784, 1785, 1786, 1787, 1788, 1789, 1790, 1791, 1792, 1929, 1930, 1931, 1932, 1868, 1869, 1870, 1921, 1922, 1923, 1924, 1925, 1926, 1927, 1928, 1908, 1909, 1910, 1942, 1943, 1944, 1945, 1946, 1947, 1948, 1949, 1950] (by decide +kernel) (by decide +kernel)) (goodIn_sub (fun _ h => List.mem_append_left _ (List.mem_append_left _ (List.mem_append_left _ (List.mem_append_left _ (List.mem_append_left _ (List.mem_append_left _ (List.mem_append_right _ h))))))) (by decide +kernel))) (goodIn_sub (fun _ h => List.mem_append_left _ (List.mem_append_left _ (List.mem_append_left _ (List.mem_append_left _ (List.mem_append_right _ h))))) (by decide +kernel))) (goodIn_sub (fun _ h => List.mem_append_left _ (List.mem_append_left _ (List.mem_append_left _ (List.mem_append_right _ h)))) (by decide +kernel))) (goodIn_sub (fun _ h => List.mem_append_left _ (List.mem_append_left _ (List.mem_append_left _ (List.mem_append_left _ (List.mem_append_left _ (List.mem_append_right _ h)))))) (by decide +kernel))
set_option maxRecDepth 20000 in
theorem gL_law_L_addCall : GoodIn wsL_law (va_wsS RL 182 yL_addCall wsL_addCall) := goodIn_app (goodIn_of _ (by decide +kernel)) ggL_law_L_addCall
set_option maxRecDepth 20000 in
theorem ggL_law_X18_addCall : GoodIn wsL_law wsX18_addCall := goodIn_ca (goodIn_r _ [724, 230, 171, 172, 681, 682, 683, 5, 684, 624, 279, 280, 281, 573, 574, 575, 576, 511, 233, 234, 235, 236, 685, 686, 687, 688, 193, 179, 689, 690, 691, 692, 693, 694, 695, 696, 178, 232, 180, 181, 182, 1793, 1794, 1795, 1796, 1797, 1798, 1799, 1800, 1801, 1802, 1803, 1804, 1805, 1806, 1807, 1808, 1809, 1810, 1811, 1812, 1813, 1814, 1815, 1816, 1817, 1818, 1819, 1820, 1821, 1822, 1823, 1824, 1825, 1826, 1827, 1828, 1829, 1830, 1831, 1832, 1833, 1834, 1835, 1836, 1837, 1838, 1839, 1840, 1841, 1842, 1843, 1844, 1845, 1846, 1847, 1848, 1849, 1850, 1851, 1852, 1853, 1854, 1855, 1856, 1857, 1858, 1859, 1860, 1861, 1862] (by decide +kernel) (by decide +kernel)) (goodIn_sub (fun _ h => List.mem_append_left _ (List.mem_append_left _ (List.mem_append_left _ (List.mem_append_left _ (List.mem_append_left _ (List.mem_append_left _ (List.mem_append_right _ h))))))) (by decide +kernel))
set_option maxRecDepth 20000 in
theorem gL_law_X18_addCall : GoodIn wsL_law (wsV RL 185 RX18 yX18_addCall wsX18_addCall) := goodIn_app (goodIn_of _ (by decide +kernel)) ggL_law_X18_addCall
set_option maxRecDepth 20000 in
theorem ggL_law_L_compile : GoodIn wsL_law wsL_compile := goodIn_ca (goodIn_ca (goodIn_r _ [727, 211, 728, 729, 730, 2, 731, 216, 217, 35, 21, 17, 732, 733, 734, 20, 735, 105, 736, 425, 426, 427, 103, 428, 429, 524, 525, 526, 527, 528, 529, 530, 531, 532, 533, 534, 535, 536, 537, 538, 539, 111, 737, 738, 739, 740, 741, 742, 743, 436, 744, 446, 552, 745, 746, 747, 748, 749, 750, 751, 752, 753, 754, 755, 756, 757, 594, 758, 605, 759, 667, 668, 669, 604, 670, 760, 761, 762, 763, 764, 765, 766, 767, 768, 769, 770, 771, 772, 773, 774, 775, 776, 449, 777, 460, 778, 520, 521, 522, 104, 523, 779, 549, 550, 551, 445, 780, 781, 782, 783, 784, 785, 786, 787, 788, 789, 790, 559, 791, 566, 792, 653, 654, 655, 463, 793, 794, 795, 796, 797, 798, 799, 462, 652, 800, 801, 802, 803, 606, 608, 610, 611, 804, 805, 806, 807, 808, 809, 810, 811, 812, 813, 541, 542, 543, 443, 544, 267, 268, 45, 269, 58, 814, 815, 816, 817, 818, 819, 820, 821, 822, 823, 824, 825, 826, 827, 828, 829, 830, 831, 832, 833, 834, 835, 836, 837, 838, 839, 840, 841, 842, 843, 844, 845, 846, 847, 848, 849, 850, 851, 852, 853, 854, 855, 856, 614, 615, 616, 617, 302, 303, 304, 54, 57, 857, 263, 264, 16, 265, 46, 266, 858, 326, 327, 328, 301, 859, 860, 861, 862, 863, 864, 865, 866, 867, 868, 869, 870, 871, 872, 873, 874, 875, 876, 877, 878, 879, 567, 880, 1784, 1785, 1786, 1787, 1788, 1789, 1790, 1791, 1792, 1868, 1869, 1870, 1933, 1934, 1935, 1936, 1937, 1938, 1939, 1940, 1941, 1921, 1922, 1923, 1924, 1925, 1926, 1927, 1928, 1942, 1943, 1944, 1945, 1946, 1947, 1948, 1949, 1950, 1929, 1930, 1931, 1932, 1908, 1909, 1910, 1863, 1864, 1865, 1866, 1867] (by decide +kernel) (by decide +kernel)) (goodIn_sub (fun _ h => List.mem_append_left _ (List.mem_append_left _ (List.mem_append_left _ (List.mem_append_left _ (List.mem_append_left _ (List.mem_append_left _ (List.mem_append_right _ h))))))) (by decide +kernel))) (goodIn_sub (fun _ h => List.mem_append_left _ (List.mem_append_left _ (List.mem_append_left _ (List.mem_append_left _ (List.mem_append_left _ (List.mem_append_right _ h)))))) (by decide +kernel))
set_option maxRecDepth 20000 in
theorem gL_law_L_compile : GoodIn wsL_law (va_wsS RL 186 yL_compile wsL_compile) := goodIn_app (goodIn_of _ (by decide +kernel)) ggL_law_L_compile
set_option maxRecDepth 20000 in
theorem ggL_law_X18_compile : GoodIn wsL_law wsX18_compile := goodIn_ca (goodIn_r _ [884, 230, 232, 885, 886, 887, 173, 511, 189, 233, 234, 235, 5, 236, 888, 889, 890, 891, 624, 177, 188, 190, 191, 192, 892, 893, 894, 895, 174, 183, 178, 180, 184, 185, 186, 171, 896, 897, 898, 899, 181, 182, 900, 901, 902, 903, 349, 350, 351, 352, 167, 904, 905, 906, 907, 908, 909, 910, 911, 912, 913, 914, 915, 916, 917, 918, 919, 172, 278, 166, 920, 921, 922, 923, 924, 925, 926, 927, 928, 929, 930, 931, 932, 933, 934, 935, 936, 937, 938, 939, 940, 941, 942, 943, 176, 1793, 1794, 1795, 1796, 1797, 1798, 1799, 1800, 1801, 1802, 1803, 1804, 1805, 1806, 1807, 1808, 1809, 1810, 1811, 1812, 1813, 1814, 1815, 1816, 1817, 1818, 1819, 1820, 1821, 1822, 1823, 1824, 1825, 1826, 1827, 1828, 1829, 1830, 1831, 1832, 1833, 1834, 1835, 1836, 1837, 1838, 1839, 1840, 1841, 1842, 1843, 1844, 1845, 1846, 1847, 1848, 1849, 1850, 1851, 1852, 1853, 1854, 1855, 1856, 1857, 1858, 1859, 1860, 1861, 1862] (by decide +kernel) (by decide +kernel)) (goodIn_sub (fun _ h => List.mem_append_left _ (List.mem_append_left _ (List.mem_append_left _ (List.mem_append_left _ (List.mem_append_left _ (List.mem_append_left _ (List.mem_append_right _ h))))))) (by decide +kernel))
set_option maxRecDepth 20000 in
theorem gL_law_X18_compile : GoodIn wsL_law (wsV RL 188 RX18 yX18_compile wsX18_compile) := goodIn_app (goodIn_of _ (by decide +kernel)) ggL_law_X18_compile
set_option maxRecDepth 20000 in
theorem ggL_law_L_open : GoodIn wsL_law wsL_open := goodIn_ca (goodIn_ca (goodIn_r _ [946, 211, 947, 948, 949, 2, 950, 36, 35, 37, 951, 952, 953, 954, 216, 217, 1784, 1785, 1786, 1787, 1788, 1789, 1790, 1791, 1792] (by decide +kernel) (by decide +kernel)) (goodIn_sub (fun _ h => List.mem_append_left _ (List.mem_append_left _ (List.mem_append_left _ (List.mem_append_left _ (List.mem_append_left _ (List.mem_append_left _ (List.mem_append_right _ h))))))) (by decide +kernel))) (goodIn_sub (fun _ h => List.mem_append_left _ (List.mem_append_left _ (List.mem_append_left _ (List.mem_append_left _ (List.mem_append_left _ (List.mem_append_right _ h)))))) (by decide +kernel))
set_option maxRecDepth 20000 in
theorem gL_law_L_open : GoodIn wsL_law (va_wsS RL 189 yL_open wsL_open) := goodIn_app (goodIn_of _ (by decide +kernel)) ggL_law_L_open
set_option maxRecDepth 20000 in
theorem ggL_law_X18_open : GoodIn wsL_law wsX18_open := goodIn_r _ [958, 230, 232, 887, 885, 886, 233, 234, 235, 5, 236, 1793, 1794, 1795, 1796, 1797, 1798, 1799, 1800, 1801, 1802, 1803, 1804, 1805, 1806, 1807, 1808, 1809, 1810, 1811, 1812, 1813, 1814, 1815, 1816, 1817, 1818, 1819, 1820, 1821, 1822, 1823, 1824, 1825, 1826, 1827, 1828, 1829, 1830, 1831, 1832, 1833, 1834, 1835, 1836, 1837, 1838, 1839, 1840, 1841, 1842, 1843, 1844, 1845, 1846, 1847, 1848, 1849, 1850, 1851, 1852, 1853, 1854, 1855, 1856, 1857, 1858, 1859, 1860, 1861, 1862] (by decide +kernel) (by decide +kernel)
set_option maxRecDepth 20000 in
theorem gL_law_X18_open : GoodIn wsL_law (wsV RL 191 RX18 yX18_open wsX18_open) := goodIn_app (goodIn_of _ (by decide +kernel)) ggL_law_X18_open
set_option maxRecDepth 20000 in
theorem ggL_law_L_fault : GoodIn wsL_law wsL_fault := goodIn_ca (goodIn_ca (goodIn_ca (goodIn_r _ [961, 244, 211, 962, 963, 964, 2, 965, 966, 967, 968, 969, 250, 251, 21, 970, 971, 972, 20, 973, 778, 520, 521, 522, 104, 523, 425, 426, 427, 103, 428, 429, 524, 525, 526, 527, 528, 529, 530, 531, 532, 533, 534, 535, 536, 537, 538, 539, 111, 780, 781, 782, 436, 783, 445, 784, 552, 750, 951, 952, 953, 954, 216, 217, 35, 974, 870, 871, 559, 872, 873, 874, 875, 876, 877, 878, 879, 567, 880, 1784, 1785, 1786, 1787, 1788, 1789, 1790, 1791, 1792, 1868, 1869, 1870, 1921, 1922, 1923, 1924, 1925, 1926, 1927, 1928, 1933, 1934, 1935, 1936, 1937, 1938, 1939, 1940, 1941] (by decide +kernel) (by decide +kernel)) (goodIn_sub (fun _ h => List.mem_append_left _ (List.mem_append_left _ (List.mem_append_left _ (List.mem_append_left _ (List.mem_append_left _ (List.mem_append_left _ (List.mem_append_right _ h))))))) (by decide +kernel))) (goodIn_sub (fun _ h => List.mem_append_left _ (List.mem_append_left _ (List.mem_append_left _ (List.mem_append_left _ (List.mem_append_right _ h))))) (by decide +kernel))) (goodIn_sub (fun _ h => List.mem_append_left _ (List.mem_append_left _ (List.mem_append_left _ (List.mem_append_left _ (List.mem_append_left _ (List.mem_append_right _ h)))))) (by decide +kernel))
set_option maxRecDepth 20000 in
theorem gL_law_L_fault : GoodIn wsL_law (va_wsS RL 192 yL_fault wsL_fault) := goodIn_app (goodIn_of _ (by decide +kernel)) ggL_law_L_fault
set_option maxRecDepth 20000 in
theorem ggL_law_X18_fault : GoodIn wsL_law wsX18_fault := goodIn_ca (goodIn_r _ [978, 979, 980, 981, 5, 982, 173, 232, 230, 573, 574, 575, 576, 511, 279, 280, 281, 940, 941, 942, 943, 188, 176, 190, 191, 189, 1793, 1794, 1795, 1796, 1797, 1798, 1799, 1800, 1801, 1802, 1803, 1804, 1805, 1806, 1807, 1808, 1809, 1810, 1811, 1812, 1813, 1814, 1815, 1816, 1817, 1818, 1819, 1820, 1821, 1822, 1823, 1824, 1825, 1826, 1827, 1828, 1829, 1830, 1831, 1832, 1833, 1834, 1835, 1836, 1837, 1838, 1839, 1840, 1841, 1842, 1843, 1844, 1845, 1846, 1847, 1848, 1849, 1850, 1851, 1852, 1853, 1854, 1855, 1856, 1857, 1858, 1859, 1860, 1861, 1862] (by decide +kernel) (by decide +kernel)) (goodIn_sub (fun _ h => List.mem_append_left _ (List.mem_append_left _ (List.mem_append_left _ (List.mem_append_left _ (List.mem_append_left _ (List.mem_append_left _ (List.mem_append_right _ h))))))) (by decide +kernel))
set_option maxRecDepth 20000 in
theorem gL_law_X18_fault : GoodIn wsL_law (wsV RL 194 RX18 yX18_fault wsX18_fault) := goodIn_app (goodIn_of _ (by decide +kernel)) ggL_law_X18_fault
set_option maxRecDepth 20000 in
theorem ggL_law_L_isGood : GoodIn wsL_law wsL_isGood := goodIn_ca (goodIn_ca (goodIn_ca (goodIn_r _ [985, 244, 211, 986, 987, 988, 2, 989, 966, 967, 968, 969, 250, 251, 21, 970, 971, 972, 20, 973, 778, 520, 521, 522, 104, 523, 425, 426, 427, 103, 428, 429, 524, 525, 526, 527, 528, 529, 530, 531, 532, 533, 534, 535, 536, 537, 538, 539, 111, 780, 781, 782, 436, 783, 445, 784, 552, 750, 951, 952, 953, 954, 216, 217, 35, 1933, 1934, 1935, 1936, 1937, 1938, 1939, 1940, 1941, 1784, 1785, 1786, 1787, 1788, 1789, 1790, 1791, 1792, 1868, 1869, 1870, 1921, 1922, 1923, 1924, 1925, 1926, 1927, 1928] (by decide +kernel) (by decide +kernel)) (goodIn_sub (fun _ h => List.mem_append_left _ (List.mem_append_left _ (List.mem_append_left _ (List.mem_append_left _ (List.mem_append_left _ (List.mem_append_left _ (List.mem_append_right _ h))))))) (by decide +kernel))) (goodIn_sub (fun _ h => List.mem_append_left _ (List.mem_append_left _ (List.mem_append_left _ (List.mem_append_left _ (List.mem_append_right _ h))))) (by decide +kernel))) (goodIn_sub (fun _ h => List.mem_append_left _ (List.mem_append_left _ (List.mem_append_left _ (List.mem_append_left _ (List.mem_append_left _ (List.mem_append_right _ h)))))) (by decide +kernel))
set_option maxRecDepth 20000 in
theorem gL_law_L_isGood : GoodIn wsL_law (va_wsS RL 195 yL_isGood wsL_isGood) := goodIn_app (goodIn_of _ (by decide +kernel)) ggL_law_L_isGood
set_option maxRecDepth 20000 in
theorem ggL_law_X18_isGood : GoodIn wsL_law wsX18_isGood := goodIn_ca (goodIn_r _ [993, 189, 979, 980, 981, 5, 982, 173, 232, 230, 573, 574, 575, 576, 511, 279, 280, 281, 1793, 1794, 1795, 1796, 1797, 1798, 1799, 1800, 1801, 1802, 1803, 1804, 1805, 1806, 1807, 1808, 1809, 1810, 1811, 1812, 1813, 1814, 1815, 1816, 1817, 1818, 1819, 1820, 1821, 1822, 1823, 1824, 1825, 1826, 1827, 1828, 1829, 1830, 1831, 1832, 1833, 1834, 1835, 1836, 1837, 1838, 1839, 1840, 1841, 1842, 1843, 1844, 1845, 1846, 1847, 1848, 1849, 1850, 1851, 1852, 1853, 1854, 1855, 1856, 1857, 1858, 1859, 1860, 1861, 1862] (by decide +kernel) (by decide +kernel)) (goodIn_sub (fun _ h => List.mem_append_left _ (List.mem_append_left _ (List.mem_append_left _ (List.mem_append_left _ (List.mem_append_left _ (List.mem_append_left _ (List.mem_append_right _ h))))))) (by decide +kernel))
set_option maxRecDepth 20000 in
theorem gL_law_X18_isGood : GoodIn wsL_law (wsV RL 197 RX18 yX18_isGood wsX18_isGood) := goodIn_app (goodIn_of _ (by decide +kernel)) ggL_law_X18_isGood
set_option maxRecDepth 20000 in
theorem ggL_law_L_found : GoodIn wsL_law wsL_found := goodIn_ca (goodIn_ca (goodIn_ca (goodIn_ca (goodIn_r _ [996, 244, 211, 386, 997, 998, 999, 2, 1000, 391, 392, 966, 967, 968, 969, 250, 251, 21, 970, 971, 972, 20, 973, 778, 520, 521, 522, 104, 523, 425, 426, 427, 103, 428, 429, 524, 525, 526, 527, 528, 529, 530, 531, 532, 533, 534, 535, 536, 537, 538, 539, 111, 780, 781, 782, 436, 783, 445, 784, 552, 750, 951, 952, 953, 954, 216, 217, 35, 1001, 1002, 1003, 559, 1004, 880, 879, 1933, 1934, 1935, 1936, 1937, 1938, 1939, 1940, 1941, 1784, 1785, 1786, 1787, 1788, 1789, 1790, 1791, 1792, 1868, 1869, 1870, 1921, 1922, 1923, 1924, 1925, 1926, 1927, 1928] (by decide +kernel) (by decide +kernel)) (goodIn_sub (fun _ h => List.mem_append_left _ (List.mem_append_left _ (List.mem_append_left _ (List.mem_append_left _ (List.mem_append_left _ (List.mem_append_left _ (List.mem_append_right _ h))))))) (by decide +kernel))) (goodIn_sub (fun _ h => List.mem_append_left _ (List.mem_append_left _ (List.mem_append_right _ h))) (by decide +kernel))) (goodIn_sub (fun _ h => List.mem_append_left _ (List.mem_append_left _ (List.mem_append_left _ (List.mem_append_left _ (List.mem_append_right _ h))))) (by decide +kernel))) (goodIn_sub (fun _ h => List.mem_append_left _ (List.mem_append_left _ (List.mem_append_left _ (List.mem_append_left _ (List.mem_append_left _ (List.mem_append_right _ h)))))) (by decide +kernel))
set_option maxRecDepth 20000 in
theorem gL_law_L_found : GoodIn wsL_law (va_wsS RL 198 yL_found wsL_found) := goodIn_app (goodIn_of _ (by decide +kernel)) ggL_law_L_found
set_option maxRecDepth 20000 in
theorem ggL_law_X18_found : GoodIn wsL_law wsX18_found := goodIn_ca (goodIn_r _ [1008, 189, 230, 190, 191, 979, 980, 981, 5, 982, 173, 232, 573, 574, 575, 576, 511, 279, 280, 281, 1793, 1794, 1795, 1796, 1797, 1798, 1799, 1800, 1801, 1802, 1803, 1804, 1805, 1806, 1807, 1808, 1809, 1810, 1811, 1812, 1813, 1814, 1815, 1816, 1817, 1818, 1819, 1820, 1821, 1822, 1823, 1824, 1825, 1826, 1827, 1828, 1829, 1830, 1831, 1832, 1833, 1834, 1835, 1836, 1837, 1838, 1839, 1840, 1841, 1842, 1843, 1844, 1845, 1846, 1847, 1848, 1849, 1850, 1851, 1852, 1853, 1854, 1855, 1856, 1857, 1858, 1859, 1860, 1861, 1862] (by decide +kernel) (by decide +kernel)) (goodIn_sub (fun _ h => List.mem_append_left _ (List.mem_append_left _ (List.mem_append_left _ (List.mem_append_left _ (List.mem_append_left _ (List.mem_append_left _ (List.mem_append_right _ h))))))) (by decide +kernel))
set_option maxRecDepth 20000 in
theorem gL_law_X18_found : GoodIn wsL_law (wsV RL 200 RX18 yX18_found wsX18_found) := goodIn_app (goodIn_of _ (by decide +kernel)) ggL_law_X18_found
set_option maxRecDepth 20000 in
theorem ggL_law_L_switchOf : GoodIn wsL_law wsL_switchOf := goodIn_ca (goodIn_ca (goodIn_ca (goodIn_ca (goodIn_r _ [1011, 244, 211, 386, 1012, 1013, 1014, 2, 1015, 391, 392, 966, 967, 968, 969, 250, 251, 21, 970, 971, 972, 20, 973, 778, 520, 521, 522, 104, 523, 425, 426, 427, 103, 428, 429, 524, 525, 526, 527, 528, 529, 530, 531, 532, 533, 534, 535, 536, 537, 538, 539, 111, 780, 781, 782, 436, 783, 445, 784, 552, 750, 951, 952, 953, 954, 216, 217, 35, 1933, 1934, 1935, 1936, 1937, 1938, 1939, 1940, 1941, 1784, 1785, 1786, 1787, 1788, 1789, 1790, 1791, 1792, 1868, 1869, 1870, 1921, 1922, 1923, 1924, 1925, 1926, 1927, 1928] (by decide +kernel) (by decide +kernel)) (goodIn_sub (fun _ h => List.mem_append_left _ (List.mem_append_left _ (List.mem_append_left _ (List.mem_append_left _ (List.mem_append_left _ (List.mem_append_left _ (List.mem_append_right _ h))))))) (by decide +kernel))) (goodIn_sub (fun _ h => List.mem_append_left _ (List.mem_append_left _ (List.mem_append_right _ h))) (by decide +kernel))) (goodIn_sub (fun _ h => List.mem_append_left _ (List.mem_append_left _ (List.mem_append_left _ (List.mem_append_left _ (List.mem_append_right _ h))))) (by decide +kernel))) (goodIn_sub (fun _ h => List.mem_append_left _ (List.mem_append_left _ (List.mem_append_left _ (List.mem_append_left _ (List.mem_append_left _ (List.mem_append_right _ h)))))) (by decide +kernel))
set_option maxRecDepth 20000 in
theorem gL_law_L_switchOf : GoodIn wsL_law (va_wsS RL 201 yL_switchOf wsL_switchOf) := goodIn_app (goodIn_of _ (by decide +kernel)) ggL_law_L_switchOf
set_option maxRecDepth 20000 in
theorem ggL_law_X18_switchOf : GoodIn wsL_law wsX18_switchOf := goodIn_ca (goodIn_r _ [1019, 188, 192, 979, 980, 981, 5, 982, 173, 232, 230, 573, 574, 575, 576, 511, 279, 280, 281, 233, 234, 235, 236, 1793, 1794, 1795, 1796, 1797, 1798, 1799, 1800, 1801, 1802, 1803, 1804, 1805, 1806, 1807, 1808, 1809, 1810, 1811, 1812, 1813, 1814, 1815, 1816, 1817, 1818, 1819, 1820, 1821, 1822, 1823, 1824, 1825, 1826, 1827, 1828, 1829, 1830, 1831, 1832, 1833, 1834, 1835, 1836, 1837, 1838, 1839, 1840, 1841, 1842, 1843, 1844, 1845, 1846, 1847, 1848, 1849, 1850, 1851, 1852, 1853, 1854, 1855, 1856, 1857, 1858, 1859, 1860, 1861, 1862] (by decide +kernel) (by decide +kernel)) (goodIn_sub (fun _ h => List.mem_append_left _ (List.mem_append_left _ (List.mem_append_left _ (List.mem_append_left _ (List.mem_append_left _ (List.mem_append_left _ (List.mem_append_right _ h))))))) (by decide +kernel))
set_option maxRecDepth 20000 in
theorem gL_law_X18_switchOf : GoodIn wsL_law (wsV RL 203 RX18 yX18_switchOf wsX18_switchOf) := goodIn_app (goodIn_of _ (by decide +kernel)) ggL_law_X18_switchOf
set_option maxRecDepth 20000 in
theorem ggL_law_L_goalAt : GoodIn wsL_law wsL_goalAt := goodIn_ca (goodIn_ca (goodIn_ca (goodIn_ca (goodIn_r _ [1022, 244, 211, 386, 1023, 1024, 1025, 2, 1026, 391, 392, 1027, 1028, 1029, 1030, 250, 251, 21, 633, 634, 635, 20, 636, 106, 637, 425, 426, 427, 103, 428, 429, 524, 525, 526, 527, 528, 529, 530, 531, 532, 533, 534, 535, 536, 537, 538, 539, 111, 1031, 781, 782, 436, 783, 445, 784, 552, 750, 951, 952, 953, 954, 216, 217, 35, 1032, 1033, 1034, 594, 1035, 606, 808, 809, 810, 811, 605, 1784, 1785, 1786, 1787, 1788, 1789, 1790, 1791, 1792, 1942, 1943, 1944, 1945, 1946, 1947, 1948, 1949, 1950, 1868, 1869, 1870, 1921, 1922, 1923, 1924, 1925, 1926, 1927, 1928] (by decide +kernel) (by decide +kernel)) (goodIn_sub (fun _ h => List.mem_append_left _ (List.mem_append_left _ (List.mem_append_left _ (List.mem_append_left _ (List.mem_append_left _ (List.mem_append_left _ (List.mem_append_right _ h))))))) (by decide +kernel))) (goodIn_sub (fun _ h => List.mem_append_left _ (List.mem_append_left _ (List.mem_append_right _ h))) (by decide +kernel))) (goodIn_sub (fun _ h => List.mem_append_left _ (List.mem_append_left _ (List.mem_append_left _ (List.mem_append_left _ (List.mem_append_right _ h))))) (by decide +kernel))) (goodIn_sub (fun _ h => List.mem_append_left _ (List.mem_append_left _ (List.mem_append_left _ (List.mem_append_left _ (List.mem_append_left _ (List.mem_append_right _ h)))))) (by decide +kernel))
set_option maxRecDepth 20000 in
theorem gL_law_L_goalAt : GoodIn wsL_law (va_wsS RL 204 yL_goalAt wsL_goalAt) := goodIn_app (goodIn_of _ (by decide +kernel)) ggL_law_L_goalAt
set_option maxRecDepth 20000 in
theorem ggL_law_X18_goalAt : GoodIn wsL_law wsX18_goalAt := goodIn_ca (goodIn_r _ [1039, 184, 1040, 1041, 1042, 5, 1043, 173, 177, 232, 183, 230, 681, 682, 683, 684, 624, 279, 280, 281, 1793, 1794, 1795, 1796, 1797, 1798, 1799, 1800, 1801, 1802, 1803, 1804, 1805, 1806, 1807, 1808, 1809, 1810, 1811, 1812, 1813, 1814, 1815, 1816, 1817, 1818, 1819, 1820, 1821, 1822, 1823, 1824, 1825, 1826, 1827, 1828, 1829, 1830, 1831, 1832, 1833, 1834, 1835, 1836, 1837, 1838, 1839, 1840, 1841, 1842, 1843, 1844, 1845, 1846, 1847, 1848, 1849, 1850, 1851, 1852, 1853, 1854, 1855, 1856, 1857, 1858, 1859, 1860, 1861, 1862] (by decide +kernel) (by decide +kernel)) (goodIn_sub (fun _ h => List.mem_append_left _ (List.mem_append_left _ (List.mem_append_left _ (List.mem_append_left _ (List.mem_append_left _ (List.mem_append_left _ (List.mem_append_right _ h))))))) (by decide +kernel))
set_option maxRecDepth 20000 in
theorem gL_law_X18_goalAt : GoodIn wsL_law (wsV RL 206 RX18 yX18_goalAt wsX18_goalAt) := goodIn_app (goodIn_of _ (by decide +kernel)) ggL_law_X18_goalAt
set_option maxRecDepth 20000 in
theorem ggL_law_L_chosenAt : GoodIn wsL_law wsL_chosenAt := goodIn_ca (goodIn_ca (goodIn_ca (goodIn_ca (goodIn_r _ [1046, 244, 211, 386, 1047, 1048, 1049, 2, 1050, 391, 392, 1027, 1028, 1029, 1030, 250, 251, 21, 633, 634, 635, 20, 636, 106, 637, 425, 426, 427, 103, 428, 429, 524, 525, 526, 527, 528, 529, 530, 531, 532, 533, 534, 535, 536, 537, 538, 539, 111, 1031, 781, 782, 436, 783, 445, 784, 552, 750, 951, 952, 953, 954, 216, 217, 35, 1051, 830, 831, 594, 832, 610, 808, 809, 810, 811, 605, 1933, 1934, 1935, 1936, 1937, 1938, 1939, 1940, 1941, 1784, 1785, 1786, 1787, 1788, 1789, 1790, 1791, 1792, 1942, 1943, 1944, 1945, 1946, 1947, 1948, 1949, 1950, 1868, 1869, 1870, 1921, 1922, 1923, 1924, 1925, 1926, 1927, 1928] (by decide +kernel) (by decide +kernel)) (goodIn_sub (fun _ h => List.mem_append_left _ (List.mem_append_left _ (List.mem_append_left _ (List.mem_append_left _ (List.mem_append_left _ (List.mem_append_left _ (List.mem_append_right _ h))))))) (by decide +kernel))) (goodIn_sub (fun _ h => List.mem_append_left _ (List.mem_append_left _ (List.mem_append_right _ h))) (by decide +kernel))) (goodIn_sub (fun _ h => List.mem_append_left _ (List.mem_append_left _ (List.mem_append_left _ (List.mem_append_left _ (List.mem_append_right _ h))))) (by decide +kernel))) (goodIn_sub (fun _ h => List.mem_append_left _ (List.mem_append_left _ (List.mem_append_left _ (List.mem_append_left _ (List.mem_append_left _ (List.mem_append_right _ h)))))) (by decide +kernel))
set_option maxRecDepth 20000 in
theorem gL_law_L_chosenAt : GoodIn wsL_law (va_wsS RL 207 yL_chosenAt wsL_chosenAt) := goodIn_app (goodIn_of _ (by decide +kernel)) ggL_law_L_chosenAt
set_option maxRecDepth 20000 in
theorem ggL_law_X18_chosenAt : GoodIn wsL_law wsX18_chosenAt := goodIn_ca (goodIn_r _ [1055, 185, 1040, 1041, 1042, 5, 1043, 173, 177, 232, 183, 230, 681, 682, 683, 684, 624, 279, 280, 281, 233, 234, 235, 236, 1793, 1794, 1795, 1796, 1797, 1798, 1799, 1800, 1801, 1802, 1803, 1804, 1805, 1806, 1807, 1808, 1809, 1810, 1811, 1812, 1813, 1814, 1815, 1816, 1817, 1818, 1819, 1820, 1821, 1822, 1823, 1824, 1825, 1826, 1827, 1828, 1829, 1830, 1831, 1832, 1833, 1834, 1835, 1836, 1837, 1838, 1839, 1840, 1841, 1842, 1843, 1844, 1845, 1846, 1847, 1848, 1849, 1850, 1851, 1852, 1853, 1854, 1855, 1856, 1857, 1858, 1859, 1860, 1861, 1862] (by decide +kernel) (by decide +kernel)) (goodIn_sub (fun _ h => List.mem_append_left _ (List.mem_append_left _ (List.mem_append_left _ (List.mem_append_left _ (List.mem_append_left _ (List.mem_append_left _ (List.mem_append_right _ h))))))) (by decide +kernel))
set_option maxRecDepth 20000 in
theorem gL_law_X18_chosenAt : GoodIn wsL_law (wsV RL 209 RX18 yX18_chosenAt wsX18_chosenAt) := goodIn_app (goodIn_of _ (by decide +kernel)) ggL_law_X18_chosenAt
set_option maxRecDepth 20000 in
theorem ggL_law_L_ask : GoodIn wsL_law wsL_ask := goodIn_ca (goodIn_ca (goodIn_ca (goodIn_ca (goodIn_ca (goodIn_r _ [1058, 244, 245, 211, 1059, 1060, 1061, 1062, 2, 1063, 250, 251, 252, 253, 1064, 1065, 21, 26, 30, 25, 36, 37, 970, 971, 972, 20, 973, 778, 520, 521, 522, 104, 523, 425, 426, 427, 103, 428, 429, 524, 525, 526, 527, 528, 529, 530, 531, 532, 533, 534, 535, 536, 537, 538, 539, 111, 780, 781, 782, 436, 783, 445, 784, 552, 750, 1066, 1067, 1068, 1069, 17, 1070, 789, 790, 559, 791, 566, 1071, 452, 453, 377, 306, 307, 16, 308, 47, 266, 267, 268, 45, 269, 58, 1072, 1073, 1074, 1075, 378, 322, 323, 324, 301, 302, 303, 304, 54, 57, 642, 326, 327, 328, 46, 720, 614, 615, 616, 443, 617, 951, 952, 953, 954, 216, 217, 35, 1076, 1077, 1078, 24, 1079, 126, 128, 129, 130, 1080, 1081, 1082, 131, 1083, 1084, 1085, 1086, 1087, 1088, 1089, 1090, 60, 61, 62, 55, 63, 64, 65, 66, 67, 68, 69, 70, 71, 72, 56, 73, 74, 75, 76, 77, 78, 79, 80, 81, 82, 83, 84, 85, 86, 87, 88, 89, 90, 91, 92, 93, 94, 95, 96, 1091, 1092, 1093, 29, 1094, 137, 1095, 1096, 1097, 1098, 1099, 1100, 1101, 1102, 1103, 1104, 1105, 1106, 1107, 1108, 138, 142, 143, 1109, 1110, 1111, 1112, 1113, 1114, 1115, 140, 1116, 1117, 1118, 1119, 1120, 1121, 1122, 1123, 1124, 12, 13, 1125, 1126, 1127, 1128, 465, 466, 467, 468, 469, 470, 471, 472, 473, 474, 475, 476, 477, 478, 479, 480, 481, 110, 482, 483, 484, 485, 486, 487, 488, 489, 490, 491, 492, 493, 494, 495, 496, 497, 498, 499, 500, 501, 502, 503, 504, 505, 506, 1129, 1130, 1131, 1132, 1133, 1134, 1135, 1136, 1137, 1138, 1139, 1140, 1141, 1142, 1143, 1144, 1145, 1146, 1147, 1148, 1149, 1150, 1151, 1152, 1153, 1154, 1155, 1156, 1157, 1158, 1159, 1160, 1161, 1162, 1163, 1164, 1165, 1166, 1167, 746, 747, 748, 446, 749, 1168, 1169, 1170, 1171, 1172, 1173, 742, 743, 744, 1174, 818, 819, 594, 820, 608, 808, 809, 810, 811, 605, 1175, 1176, 1177, 1178, 1179, 1180, 1181, 1182, 1183, 1184, 1185, 1186, 1187, 1188, 1189, 1190, 1191, 1192, 1193, 1194, 1195, 1196, 1197, 1198, 1199, 805, 806, 807, 1200, 1201, 1202, 1203, 1204, 1205, 1206, 1207, 1208, 1209, 1210, 1211, 1212, 717, 718, 719, 544, 1213, 1214, 1215, 1216, 1217, 1218, 1219, 1220, 1221, 1222, 653, 654, 449, 655, 463, 1223, 1224, 1225, 1226, 1227, 1228, 1229, 1230, 1231, 775, 776, 777, 460, 1232, 1233, 1234, 1235, 1236, 830, 831, 832, 610, 1237, 1238, 1239, 1240, 1241, 330, 331, 332, 48, 49, 333, 334, 335, 336, 337, 338, 339, 59, 340, 297, 298, 299, 300, 341, 342, 343, 344, 1242, 1243, 1244, 1245, 1246, 395, 396, 397, 1247, 1248, 1249, 1250, 321, 1251, 1252, 1253, 1784, 1785, 1786, 1787, 1788, 1789, 1790, 1791, 1792, 1933, 1934, 1935, 1936, 1937, 1938, 1939, 1940, 1941, 1871, 1872, 1873, 1874, 1875, 1876, 1877, 1878, 1879, 1880, 1868, 1869, 1870, 1921, 1922, 1923, 1924, 1925, 1926, 1927, 1928, 1863, 1864, 1865, 1866, 1867, 1908, 1909, 1910, 1911, 1912, 1913, 1914, 1915, 1916, 1917, 1918, 1919, 1920, 1881, 1882, 1883, 1884, 1885, 1886, 1887, 1888, 1889, 1890, 1891, 1892, 1951, 1952, 1953, 1954, 1955, 1956, 1957, 1958, 1959, 1960, 1929, 1930, 1931, 1932, 1942, 1943, 1944, 1945, 1946, 1947, 1948, 1949, 1950] (by decide +kernel) (by decide +kernel)) (goodIn_sub (fun _ h => List.mem_append_left _ (List.mem_append_left _ (List.mem_append_left _ (List.mem_append_left _ (List.mem_append_left _ (List.mem_append_left _ (List.mem_append_right _ h))))))) (by decide +kernel))) (goodIn_sub (fun _ h => List.mem_append_left _ (List.mem_append_left _ (List.mem_append_left _ (List.mem_append_left _ (List.mem_append_right _ h))))) (by decide +kernel))) (goodIn_sub (fun _ h => List.mem_append_left _ (List.mem_append_left _ (List.mem_append_left _ (List.mem_append_right _ h)))) (by decide +kernel))) (goodIn_sub (fun _ h => List.mem_append_left _ (List.mem_append_right _ h)) (by decide +kernel))) (goodIn_sub (fun _ h => List.mem_append_left _ (List.mem_append_left _ (List.mem_append_left _ (List.mem_append_left _ (List.mem_append_left _ (List.mem_append_right _ h)))))) (by decide +kernel))
set_option maxRecDepth 20000 in
theorem gL_law_L_ask : GoodIn wsL_law (va_wsS RL 210 yL_ask wsL_ask) := goodIn_app (goodIn_of _ (by decide +kernel)) ggL_law_L_ask
set_option maxRecDepth 20000 in
theorem ggL_law_X18_ask : GoodIn wsL_law wsX18_ask := goodIn_ca (goodIn_r _ [1257, 230, 173, 56, 172, 232, 189, 357, 1258, 1259, 1260, 1261, 1262, 1263, 1264, 1265, 1266, 887, 885, 1267, 1268, 1269, 1270, 1271, 886, 1272, 1273, 1274, 194, 195, 198, 196, 199, 197, 200, 573, 574, 575, 5, 576, 511, 279, 280, 281, 233, 234, 235, 236, 1275, 1276, 1277, 1278, 171, 174, 353, 354, 355, 356, 358, 359, 360, 361, 166, 168, 1279, 1280, 1281, 1282, 1283, 183, 1284, 177, 1285, 1286, 1287, 1288, 1289, 483, 75, 484, 1290, 1291, 1292, 1293, 1294, 1295, 1296, 1297, 1298, 1299, 1300, 192, 624, 184, 181, 1301, 1302, 1303, 1304, 12, 13, 1305, 1306, 1307, 1308, 1309, 1310, 1311, 1312, 1313, 1314, 1315, 1316, 201, 1317, 1318, 1319, 1320, 1321, 1322, 1323, 1324, 1325, 1326, 1327, 1328, 1329, 1330, 1331, 1332, 1333, 1334, 1335, 1336, 202, 203, 1337, 1338, 1339, 1340, 1341, 1342, 1343, 182, 1344, 1345, 1346, 1347, 1348, 1349, 1350, 1351, 1352, 1353, 1354, 1355, 1356, 1357, 1358, 1359, 1360, 180, 185, 1361, 1362, 1363, 1364, 1365, 1366, 1367, 1368, 169, 349, 350, 351, 352, 167, 362, 363, 364, 365, 170, 1369, 1370, 1371, 1372, 1373, 1374, 1375, 1376, 1793, 1794, 1795, 1796, 1797, 1798, 1799, 1800, 1801, 1802, 1803, 1804, 1805, 1806, 1807, 1808, 1809, 1810, 1811, 1812, 1813, 1814, 1815, 1816, 1817, 1818, 1819, 1820, 1821, 1822, 1823, 1824, 1825, 1826, 1827, 1828, 1829, 1830, 1831, 1832, 1833, 1834, 1835, 1836, 1837, 1838, 1839, 1840, 1841, 1842, 1843, 1844, 1845, 1846, 1847, 1848, 1849, 1850, 1851, 1852, 1853, 1854, 1855, 1856, 1857, 1858, 1859, 1860, 1861, 1862, 1961, 1962, 1963, 1964, 1965, 1966, 1967, 1968, 1969, 1970, 1971, 1972, 1973, 1974, 1975] (by decide +kernel) (by decide +kernel)) (goodIn_sub (fun _ h => List.mem_append_left _ (List.mem_append_left _ (List.mem_append_left _ (List.mem_append_left _ (List.mem_append_left _ (List.mem_append_left _ (List.mem_append_right _ h))))))) (by decide +kernel))
set_option maxRecDepth 20000 in
theorem gL_law_X18_ask : GoodIn wsL_law (wsV RL 212 RX18 yX18_ask wsX18_ask) := goodIn_app (goodIn_of _ (by decide +kernel)) ggL_law_X18_ask
set_option maxRecDepth 20000 in
theorem ggL_law_L_ending : GoodIn wsL_law wsL_ending := goodIn_ca (goodIn_ca (goodIn_r _ [1379, 386, 1380, 1381, 1382, 2, 1383, 25, 1384, 1385, 1386, 1387, 391, 392, 36, 1784, 1785, 1786, 1787, 1788, 1789, 1790, 1791, 1792, 1871, 1872, 1873, 1874, 1875, 1876, 1877, 1878, 1879, 1880] (by decide +kernel) (by decide +kernel)) (goodIn_sub (fun _ h => List.mem_append_left _ (List.mem_append_left _ (List.mem_append_left _ (List.mem_append_left _ (List.mem_append_left _ (List.mem_append_left _ (List.mem_append_right _ h))))))) (by decide +kernel))) (goodIn_sub (fun _ h => List.mem_append_left _ (List.mem_append_left _ (List.mem_append_right _ h))) (by decide +kernel))
set_option maxRecDepth 20000 in
theorem gL_law_L_ending : GoodIn wsL_law (va_wsS RL 213 yL_ending wsL_ending) := goodIn_app (goodIn_of _ (by decide +kernel)) ggL_law_L_ending
set_option maxRecDepth 20000 in
theorem ggL_law_X18_ending : GoodIn wsL_law wsX18_ending := goodIn_r _ [1391, 1269, 1392, 1393, 1394, 5, 1395, 887, 230, 1793, 1794, 1795, 1796, 1797, 1798, 1799, 1800, 1801, 1802, 1803, 1804, 1805, 1806, 1807, 1808, 1809, 1810, 1811, 1812, 1813, 1814, 1815, 1816, 1817, 1818, 1819, 1820, 1821, 1822, 1823, 1824, 1825, 1826, 1827, 1828, 1829, 1830, 1831, 1832, 1833, 1834, 1835, 1836, 1837, 1838, 1839, 1840, 1841, 1842, 1843, 1844, 1845, 1846, 1847, 1848, 1849, 1850, 1851, 1852, 1853, 1854, 1855, 1856, 1857, 1858, 1859, 1860, 1861, 1862] (by decide +kernel) (by decide +kernel)
set_option maxRecDepth 20000 in
theorem gL_law_X18_ending : GoodIn wsL_law (wsV RL 215 RX18 yX18_ending wsX18_ending) := goodIn_app (goodIn_of _ (by decide +kernel)) ggL_law_X18_ending
set_option maxRecDepth 20000 in
theorem ggL_law_L_answerAt : GoodIn wsL_law wsL_answerAt := goodIn_ca (goodIn_ca (goodIn_ca (goodIn_r _ [1398, 386, 244, 1399, 1400, 1401, 2, 1402, 250, 251, 25, 1384, 1385, 1386, 1387, 391, 392, 36, 1403, 1404, 1405, 24, 1406, 129, 1162, 267, 268, 45, 269, 58, 1407, 1408, 1409, 1410, 126, 1411, 717, 718, 436, 719, 443, 544, 1412, 1413, 1414, 1415, 1148, 302, 303, 304, 54, 57, 1784, 1785, 1786, 1787, 1788, 1789, 1790, 1791, 1792, 1871, 1872, 1873, 1874, 1875, 1876, 1877, 1878, 1879, 1880, 1908, 1909, 1910, 1933, 1934, 1935, 1936, 1937, 1938, 1939, 1940, 1941, 1924, 1925, 1926, 1927, 1928] (by decide +kernel) (by decide +kernel)) (goodIn_sub (fun _ h => List.mem_append_left _ (List.mem_append_left _ (List.mem_append_left _ (List.mem_append_left _ (List.mem_append_left _ (List.mem_append_left _ (List.mem_append_right _ h))))))) (by decide +kernel))) (goodIn_sub (fun _ h => List.mem_append_left _ (List.mem_append_left _ (List.mem_append_left _ (List.mem_append_left _ (List.mem_append_right _ h))))) (by decide +kernel))) (goodIn_sub (fun _ h => List.mem_append_left _ (List.mem_append_left _ (List.mem_append_right _ h))) (by decide +kernel))
set_option maxRecDepth 20000 in
theorem gL_law_L_answerAt : GoodIn wsL_law (va_wsS RL 216 yL_answerAt wsL_answerAt) := goodIn_app (goodIn_of _ (by decide +kernel)) ggL_law_L_answerAt
set_option maxRecDepth 20000 in
theorem ggL_law_X18_answerAt : GoodIn wsL_law wsX18_answerAt := goodIn_ca (goodIn_r _ [1419, 1270, 171, 1267, 195, 1392, 1393, 1394, 5, 1395, 887, 230, 279, 280, 281, 233, 234, 235, 236, 1793, 1794, 1795, 1796, 1797, 1798, 1799, 1800, 1801, 1802, 1803, 1804, 1805, 1806, 1807, 1808, 1809, 1810, 1811, 1812, 1813, 1814, 1815, 1816, 1817, 1818, 1819, 1820, 1821, 1822, 1823, 1824, 1825, 1826, 1827, 1828, 1829, 1830, 1831, 1832, 1833, 1834, 1835, 1836, 1837, 1838, 1839, 1840, 1841, 1842, 1843, 1844, 1845, 1846, 1847, 1848, 1849, 1850, 1851, 1852, 1853, 1854, 1855, 1856, 1857, 1858, 1859, 1860, 1861, 1862] (by decide +kernel) (by decide +kernel)) (goodIn_sub (fun _ h => List.mem_append_left _ (List.mem_append_left _ (List.mem_append_left _ (List.mem_append_left _ (List.mem_append_left _ (List.mem_append_left _ (List.mem_append_right _ h))))))) (by decide +kernel))
set_option maxRecDepth 20000 in
theorem gL_law_X18_answerAt : GoodIn wsL_law (wsV RL 218 RX18 yX18_answerAt wsX18_answerAt) := goodIn_app (goodIn_of _ (by decide +kernel)) ggL_law_X18_answerAt
set_option maxRecDepth 20000 in
theorem ggL_law_L_multiplicity : GoodIn wsL_law wsL_multiplicity := goodIn_ca (goodIn_ca (goodIn_ca (goodIn_r _ [1422, 386, 244, 1423, 1424, 1425, 2, 1426, 250, 251, 25, 1384, 1385, 1386, 1387, 391, 392, 36, 1403, 1404, 1405, 24, 1406, 129, 1162, 267, 268, 45, 269, 58, 1427, 1428, 1429, 1430, 1148, 302, 303, 304, 54, 57, 1784, 1785, 1786, 1787, 1788, 1789, 1790, 1791, 1792, 1871, 1872, 1873, 1874, 1875, 1876, 1877, 1878, 1879, 1880, 1908, 1909, 1910] (by decide +kernel) (by decide +kernel)) (goodIn_sub (fun _ h => List.mem_append_left _ (List.mem_append_left _ (List.mem_append_left _ (List.mem_append_left _ (List.mem_append_left _ (List.mem_append_left _ (List.mem_append_right _ h))))))) (by decide +kernel))) (goodIn_sub (fun _ h => List.mem_append_left _ (List.mem_append_left _ (List.mem_append_left _ (List.mem_append_left _ (List.mem_append_right _ h))))) (by decide +kernel))) (goodIn_sub (fun _ h => List.mem_append_left _ (List.mem_append_left _ (List.mem_append_right _ h))) (by decide +kernel))
set_option maxRecDepth 20000 in
theorem gL_law_L_multiplicity : GoodIn wsL_law (va_wsS RL 219 yL_multiplicity wsL_multiplicity) := goodIn_app (goodIn_of _ (by decide +kernel)) ggL_law_L_multiplicity
set_option maxRecDepth 20000 in
theorem ggL_law_X18_multiplicity : GoodIn wsL_law wsX18_multiplicity := goodIn_ca (goodIn_r _ [1434, 1270, 171, 1267, 195, 1392, 1393, 1394, 5, 1395, 887, 230, 279, 280, 281, 233, 234, 235, 236, 1793, 1794, 1795, 1796, 1797, 1798, 1799, 1800, 1801, 1802, 1803, 1804, 1805, 1806, 1807, 1808, 1809, 1810, 1811, 1812, 1813, 1814, 1815, 1816, 1817, 1818, 1819, 1820, 1821, 1822, 1823, 1824, 1825, 1826, 1827, 1828, 1829, 1830, 1831, 1832, 1833, 1834, 1835, 1836, 1837, 1838, 1839, 1840, 1841, 1842, 1843, 1844, 1845, 1846, 1847, 1848, 1849, 1850, 1851, 1852, 1853, 1854, 1855, 1856, 1857, 1858, 1859, 1860, 1861, 1862] (by decide +kernel) (by decide +kernel)) (goodIn_sub (fun _ h => List.mem_append_left _ (List.mem_append_left _ (List.mem_append_left _ (List.mem_append_left _ (List.mem_append_left _ (List.mem_append_left _ (List.mem_append_right _ h))))))) (by decide +kernel))
set_option maxRecDepth 20000 in
theorem gL_law_X18_multiplicity : GoodIn wsL_law (wsV RL 221 RX18 yX18_multiplicity wsX18_multiplicity) := goodIn_app (goodIn_of _ (by decide +kernel)) ggL_law_X18_multiplicity
set_option maxRecDepth 20000 in
theorem ggL_law_L_answersByBreadth : GoodIn wsL_law wsL_answersByBreadth := goodIn_ca (goodIn_ca (goodIn_ca (goodIn_r _ [1437, 386, 1059, 1438, 1439, 1440, 2, 1441, 1064, 1065, 25, 34, 1384, 1385, 1386, 1387, 391, 392, 36, 1442, 1443, 1444, 33, 1445, 1446, 1447, 157, 159, 1448, 156, 1449, 1450, 1451, 1452, 153, 154, 155, 158, 1453, 1454, 151, 1455, 1456, 1086, 1087, 45, 1088, 58, 1457, 1102, 1103, 16, 1104, 47, 266, 267, 268, 269, 1458, 322, 323, 324, 301, 302, 303, 304, 54, 57, 1459, 395, 396, 397, 1460, 60, 61, 62, 55, 63, 64, 65, 66, 67, 68, 69, 70, 71, 72, 56, 73, 74, 75, 76, 77, 78, 79, 80, 81, 82, 83, 84, 85, 86, 87, 88, 89, 90, 91, 92, 93, 94, 95, 96, 1461, 1462, 717, 718, 436, 719, 443, 544, 1463, 1145, 1146, 24, 1147, 128, 1148, 1464, 1465, 1466, 1467, 1468, 1469, 1470, 1471, 1472, 1473, 1474, 1475, 1476, 1477, 1478, 1479, 1480, 1481, 1482, 1483, 1484, 1485, 150, 1486, 1487, 1488, 1489, 1490, 520, 521, 20, 522, 104, 523, 425, 426, 427, 103, 428, 429, 524, 525, 526, 527, 528, 529, 530, 531, 532, 533, 534, 535, 536, 537, 538, 539, 111, 1491, 634, 635, 636, 106, 637, 1492, 765, 766, 594, 767, 604, 768, 670, 769, 1493, 746, 747, 748, 446, 749, 552, 750, 1494, 1495, 1496, 1497, 1498, 1499, 1500, 1501, 1502, 653, 654, 449, 655, 463, 1503, 662, 663, 664, 602, 665, 1504, 667, 668, 669, 1505, 742, 743, 744, 1506, 1507, 1508, 1509, 1510, 1511, 1512, 1513, 1514, 1515, 1516, 1517, 1518, 1519, 1520, 1521, 1522, 1523, 1524, 1525, 1526, 1527, 1528, 1529, 1530, 1531, 1532, 1533, 1534, 1535, 1536, 1537, 1538, 483, 484, 1539, 1540, 1541, 1542, 160, 1543, 298, 299, 300, 46, 1544, 1545, 1546, 1547, 1548, 1549, 1550, 1551, 1552, 1553, 1554, 1555, 1556, 1557, 1558, 1559, 1560, 1561, 1562, 1563, 1564, 1565, 1566, 1567, 1568, 1569, 1570, 1571, 1572, 1784, 1785, 1786, 1787, 1788, 1789, 1790, 1791, 1792, 1871, 1872, 1873, 1874, 1875, 1876, 1877, 1878, 1879, 1880, 1933, 1934, 1935, 1936, 1937, 1938, 1939, 1940, 1941, 1893, 1894, 1895, 1896, 1897, 1898, 1899, 1900, 1901, 1902, 1903, 1904, 1905, 1906, 1907, 1924, 1925, 1926, 1927, 1928, 1908, 1909, 1910, 1863, 1864, 1865, 1866, 1867, 1911, 1912, 1913, 1914, 1915, 1916, 1917, 1918, 1919, 1920, 1929, 1930, 1931, 1932, 1868, 1869, 1870, 1921, 1922, 1923, 1942, 1943, 1944, 1945, 1946, 1947, 1948, 1949, 1950] (by decide +kernel) (by decide +kernel)) (goodIn_sub (fun _ h => List.mem_append_left _ (List.mem_append_left _ (List.mem_append_left _ (List.mem_append_left _ (List.mem_append_left _ (List.mem_append_left _ (List.mem_append_right _ h))))))) (by decide +kernel))) (goodIn_sub (fun _ h => List.mem_append_left _ (List.mem_append_right _ h)) (by decide +kernel))) (goodIn_sub (fun _ h => List.mem_append_left _ (List.mem_append_left _ (List.mem_append_right _ h))) (by decide +kernel))
set_option maxRecDepth 20000 in
theorem gL_law_L_answersByBreadth : GoodIn wsL_law (va_wsS RL 222 yL_answersByBreadth wsL_answersByBreadth) := goodIn_app (goodIn_of _ (by decide +kernel)) ggL_law_L_answersByBreadth
set_option maxRecDepth 20000 in
theorem ggL_law_X18_answersByBreadth : GoodIn wsL_law wsX18_answersByBreadth := goodIn_ca (goodIn_r _ [1576, 204, 357, 168, 169, 1577, 1578, 171, 1267, 1268, 194, 1579, 1580, 1581, 1582, 1583, 1584, 1585, 1392, 1393, 1394, 5, 1395, 887, 230, 349, 350, 351, 352, 167, 1586, 1587, 1588, 1589, 12, 13, 1590, 1591, 1592, 1275, 1276, 1277, 1278, 174, 1593, 1594, 1595, 1596, 1597, 1598, 1599, 1600, 1601, 1602, 1603, 1604, 1605, 1606, 1607, 1608, 1609, 1610, 1611, 1612, 624, 177, 1613, 1614, 1615, 1616, 1617, 1618, 1619, 1620, 1621, 1622, 1623, 1624, 1625, 1626, 1627, 1628, 1629, 1630, 1631, 1632, 1633, 1634, 1635, 1636, 178, 180, 181, 182, 1637, 1638, 1639, 1640, 1641, 1642, 1643, 1644, 1645, 1646, 1647, 1648, 1649, 1650, 1651, 1652, 1653, 1654, 1655, 1656, 1657, 1658, 1659, 205, 206, 233, 234, 235, 236, 1793, 1794, 1795, 1796, 1797, 1798, 1799, 1800, 1801, 1802, 1803, 1804, 1805, 1806, 1807, 1808, 1809, 1810, 1811, 1812, 1813, 1814, 1815, 1816, 1817, 1818, 1819, 1820, 1821, 1822, 1823, 1824, 1825, 1826, 1827, 1828, 1829, 1830, 1831, 1832, 1833, 1834, 1835, 1836, 1837, 1838, 1839, 1840, 1841, 1842, 1843, 1844, 1845, 1846, 1847, 1848, 1849, 1850, 1851, 1852, 1853, 1854, 1855, 1856, 1857, 1858, 1859, 1860, 1861, 1862, 1976, 1977, 1978, 1979, 1980, 1981, 1982, 1983, 1984, 1985, 1986, 1987, 1988, 1989, 1990, 1991] (by decide +kernel) (by decide +kernel)) (goodIn_sub (fun _ h => List.mem_append_left _ (List.mem_append_left _ (List.mem_append_left _ (List.mem_append_left _ (List.mem_append_left _ (List.mem_append_left _ (List.mem_append_right _ h))))))) (by decide +kernel))
set_option maxRecDepth 20000 in
theorem gL_law_X18_answersByBreadth : GoodIn wsL_law (wsV RL 224 RX18 yX18_answersByBreadth wsX18_answersByBreadth) := goodIn_app (goodIn_of _ (by decide +kernel)) ggL_law_X18_answersByBreadth
set_option maxRecDepth 20000 in
theorem ggL_law_L_steps : GoodIn wsL_law wsL_steps := goodIn_ca (goodIn_ca (goodIn_r _ [1662, 386, 1663, 1664, 1665, 2, 1666, 25, 1384, 1385, 1386, 1387, 391, 392, 36, 1784, 1785, 1786, 1787, 1788, 1789, 1790, 1791, 1792, 1871, 1872, 1873, 1874, 1875, 1876, 1877, 1878, 1879, 1880] (by decide +kernel) (by decide +kernel)) (goodIn_sub (fun _ h => List.mem_append_left _ (List.mem_append_left _ (List.mem_append_left _ (List.mem_append_left _ (List.mem_append_left _ (List.mem_append_left _ (List.mem_append_right _ h))))))) (by decide +kernel))) (goodIn_sub (fun _ h => List.mem_append_left _ (List.mem_append_left _ (List.mem_append_right _ h))) (by decide +kernel))
set_option maxRecDepth 20000 in
theorem gL_law_L_steps : GoodIn wsL_law (va_wsS RL 225 yL_steps wsL_steps) := goodIn_app (goodIn_of _ (by decide +kernel)) ggL_law_L_steps
set_option maxRecDepth 20000 in
theorem ggL_law_X18_steps : GoodIn wsL_law wsX18_steps := goodIn_r _ [1670, 1271, 1392, 1393, 1394, 5, 1395, 887, 230, 1793, 1794, 1795, 1796, 1797, 1798, 1799, 1800, 1801, 1802, 1803, 1804, 1805, 1806, 1807, 1808, 1809, 1810, 1811, 1812, 1813, 1814, 1815, 1816, 1817, 1818, 1819, 1820, 1821, 1822, 1823, 1824, 1825, 1826, 1827, 1828, 1829, 1830, 1831, 1832, 1833, 1834, 1835, 1836, 1837, 1838, 1839, 1840, 1841, 1842, 1843, 1844, 1845, 1846, 1847, 1848, 1849, 1850, 1851, 1852, 1853, 1854, 1855, 1856, 1857, 1858, 1859, 1860, 1861, 1862] (by decide +kernel) (by decide +kernel)
set_option maxRecDepth 20000 in
theorem gL_law_X18_steps : GoodIn wsL_law (wsV RL 227 RX18 yX18_steps wsX18_steps) := goodIn_app (goodIn_of _ (by decide +kernel)) ggL_law_X18_steps
set_option maxRecDepth 20000 in
theorem ggL_law_L_choicePoints : GoodIn wsL_law wsL_choicePoints := goodIn_ca (goodIn_ca (goodIn_r _ [1673, 386, 1674, 1675, 1676, 2, 1677, 25, 1384, 1385, 1386, 1387, 391, 392, 36, 1784, 1785, 1786, 1787, 1788, 1789, 1790, 1791, 1792, 1871, 1872, 1873, 1874, 1875, 1876, 1877, 1878, 1879, 1880] (by decide +kernel) (by decide +kernel)) (goodIn_sub (fun _ h => List.mem_append_left _ (List.mem_append_left _ (List.mem_append_left _ (List.mem_append_left _ (List.mem_append_left _ (List.mem_append_left _ (List.mem_append_right _ h))))))) (by decide +kernel))) (goodIn_sub (fun _ h => List.mem_append_left _ (List.mem_append_left _ (List.mem_append_right _ h))) (by decide +kernel))
set_option maxRecDepth 20000 in
theorem gL_law_L_choicePoints : GoodIn wsL_law (va_wsS RL 228 yL_choicePoints wsL_choicePoints) := goodIn_app (goodIn_of _ (by decide +kernel)) ggL_law_L_choicePoints
set_option maxRecDepth 20000 in
theorem ggL_law_X18_choicePoints : GoodIn wsL_law wsX18_choicePoints := goodIn_r _ [1681, 1272, 1392, 1393, 1394, 5, 1395, 887, 230, 1793, 1794, 1795, 1796, 1797, 1798, 1799, 1800, 1801, 1802, 1803, 1804, 1805, 1806, 1807, 1808, 1809, 1810, 1811, 1812, 1813, 1814, 1815, 1816, 1817, 1818, 1819, 1820, 1821, 1822, 1823, 1824, 1825, 1826, 1827, 1828, 1829, 1830, 1831, 1832, 1833, 1834, 1835, 1836, 1837, 1838, 1839, 1840, 1841, 1842, 1843, 1844, 1845, 1846, 1847, 1848, 1849, 1850, 1851, 1852, 1853, 1854, 1855, 1856, 1857, 1858, 1859, 1860, 1861, 1862] (by decide +kernel) (by decide +kernel)
set_option maxRecDepth 20000 in
theorem gL_law_X18_choicePoints : GoodIn wsL_law (wsV RL 230 RX18 yX18_choicePoints wsX18_choicePoints) := goodIn_app (goodIn_of _ (by decide +kernel)) ggL_law_X18_choicePoints
set_option maxRecDepth 20000 in
theorem ggL_law_L_deepest : GoodIn wsL_law wsL_deepest := goodIn_ca (goodIn_ca (goodIn_r _ [1684, 386, 1685, 1686, 1687, 2, 1688, 25, 1384, 1385, 1386, 1387, 391, 392, 36, 1784, 1785, 1786, 1787, 1788, 1789, 1790, 1791, 1792, 1871, 1872, 1873, 1874, 1875, 1876, 1877, 1878, 1879, 1880] (by decide +kernel) (by decide +kernel)) (goodIn_sub (fun _ h => List.mem_append_left _ (List.mem_append_left _ (List.mem_append_left _ (List.mem_append_left _ (List.mem_append_left _ (List.mem_append_left _ (List.mem_append_right _ h))))))) (by decide +kernel))) (goodIn_sub (fun _ h => List.mem_append_left _ (List.mem_append_left _ (List.mem_append_right _ h))) (by decide +kernel))
set_option maxRecDepth 20000 in
theorem gL_law_L_deepest : GoodIn wsL_law (va_wsS RL 231 yL_deepest wsL_deepest) := goodIn_app (goodIn_of _ (by decide +kernel)) ggL_law_L_deepest
set_option maxRecDepth 20000 in
theorem ggL_law_X18_deepest : GoodIn wsL_law wsX18_deepest := goodIn_r _ [1692, 1273, 1392, 1393, 1394, 5, 1395, 887, 230, 1793, 1794, 1795, 1796, 1797, 1798, 1799, 1800, 1801, 1802, 1803, 1804, 1805, 1806, 1807, 1808, 1809, 1810, 1811, 1812, 1813, 1814, 1815, 1816, 1817, 1818, 1819, 1820, 1821, 1822, 1823, 1824, 1825, 1826, 1827, 1828, 1829, 1830, 1831, 1832, 1833, 1834, 1835, 1836, 1837, 1838, 1839, 1840, 1841, 1842, 1843, 1844, 1845, 1846, 1847, 1848, 1849, 1850, 1851, 1852, 1853, 1854, 1855, 1856, 1857, 1858, 1859, 1860, 1861, 1862] (by decide +kernel) (by decide +kernel)
set_option maxRecDepth 20000 in
theorem gL_law_X18_deepest : GoodIn wsL_law (wsV RL 233 RX18 yX18_deepest wsX18_deepest) := goodIn_app (goodIn_of _ (by decide +kernel)) ggL_law_X18_deepest
set_option maxRecDepth 20000 in
theorem ggL_law_L_recorded : GoodIn wsL_law wsL_recorded := goodIn_ca (goodIn_ca (goodIn_r _ [1695, 386, 1696, 1697, 1698, 2, 1699, 25, 1384, 1385, 1386, 1387, 391, 392, 36, 1700, 1701, 1702, 24, 1703, 130, 1162, 267, 268, 45, 269, 58, 1784, 1785, 1786, 1787, 1788, 1789, 1790, 1791, 1792, 1871, 1872, 1873, 1874, 1875, 1876, 1877, 1878, 1879, 1880, 1908, 1909, 1910] (by decide +kernel) (by decide +kernel)) (goodIn_sub (fun _ h => List.mem_append_left _ (List.mem_append_left _ (List.mem_append_left _ (List.mem_append_left _ (List.mem_append_left _ (List.mem_append_left _ (List.mem_append_right _ h))))))) (by decide +kernel))) (goodIn_sub (fun _ h => List.mem_append_left _ (List.mem_append_left _ (List.mem_append_right _ h))) (by decide +kernel))
set_option maxRecDepth 20000 in
theorem gL_law_L_recorded : GoodIn wsL_law (va_wsS RL 234 yL_recorded wsL_recorded) := goodIn_app (goodIn_of _ (by decide +kernel)) ggL_law_L_recorded
set_option maxRecDepth 20000 in
theorem ggL_law_X18_recorded : GoodIn wsL_law wsX18_recorded := goodIn_r _ [1707, 1274, 1392, 1393, 1394, 5, 1395, 887, 230, 1793, 1794, 1795, 1796, 1797, 1798, 1799, 1800, 1801, 1802, 1803, 1804, 1805, 1806, 1807, 1808, 1809, 1810, 1811, 1812, 1813, 1814, 1815, 1816, 1817, 1818, 1819, 1820, 1821, 1822, 1823, 1824, 1825, 1826, 1827, 1828, 1829, 1830, 1831, 1832, 1833, 1834, 1835, 1836, 1837, 1838, 1839, 1840, 1841, 1842, 1843, 1844, 1845, 1846, 1847, 1848, 1849, 1850, 1851, 1852, 1853, 1854, 1855, 1856, 1857, 1858, 1859, 1860, 1861, 1862] (by decide +kernel) (by decide +kernel)
set_option maxRecDepth 20000 in
theorem gL_law_X18_recorded : GoodIn wsL_law (wsV RL 236 RX18 yX18_recorded wsX18_recorded) := goodIn_app (goodIn_of _ (by decide +kernel)) ggL_law_X18_recorded
set_option maxRecDepth 20000 in
theorem ggL_law_L_recordAt : GoodIn wsL_law wsL_recordAt := goodIn_ca (goodIn_ca (goodIn_ca (goodIn_r _ [1710, 386, 244, 1711, 1712, 1713, 2, 1714, 25, 1715, 1716, 1717, 1718, 250, 251, 1384, 1385, 1386, 1387, 391, 392, 36, 1700, 1701, 1702, 24, 1703, 130, 1162, 267, 268, 45, 269, 58, 1719, 1720, 1721, 1722, 1148, 302, 303, 304, 54, 57, 1784, 1785, 1786, 1787, 1788, 1789, 1790, 1791, 1792, 1871, 1872, 1873, 1874, 1875, 1876, 1877, 1878, 1879, 1880, 1908, 1909, 1910] (by decide +kernel) (by decide +kernel)) (goodIn_sub (fun _ h => List.mem_append_left _ (List.mem_append_left _ (List.mem_append_left _ (List.mem_append_left _ (List.mem_append_left _ (List.mem_append_left _ (List.mem_append_right _ h))))))) (by decide +kernel))) (goodIn_sub (fun _ h => List.mem_append_left _ (List.mem_append_left _ (List.mem_append_left _ (List.mem_append_left _ (List.mem_append_right _ h))))) (by decide +kernel))) (goodIn_sub (fun _ h => List.mem_append_left _ (List.mem_append_left _ (List.mem_append_right _ h))) (by decide +kernel))
set_option maxRecDepth 20000 in
theorem gL_law_L_recordAt : GoodIn wsL_law (va_wsS RL 237 yL_recordAt wsL_recordAt) := goodIn_app (goodIn_of _ (by decide +kernel)) ggL_law_L_recordAt
set_option maxRecDepth 20000 in
theorem ggL_law_X18_recordAt : GoodIn wsL_law wsX18_recordAt := goodIn_ca (goodIn_r _ [1726, 1274, 230, 196, 1392, 1393, 1394, 5, 1395, 887, 279, 280, 281, 1793, 1794, 1795, 1796, 1797, 1798, 1799, 1800, 1801, 1802, 1803, 1804, 1805, 1806, 1807, 1808, 1809, 1810, 1811, 1812, 1813, 1814, 1815, 1816, 1817, 1818, 1819, 1820, 1821, 1822, 1823, 1824, 1825, 1826, 1827, 1828, 1829, 1830, 1831, 1832, 1833, 1834, 1835, 1836, 1837, 1838, 1839, 1840, 1841, 1842, 1843, 1844, 1845, 1846, 1847, 1848, 1849, 1850, 1851, 1852, 1853, 1854, 1855, 1856, 1857, 1858, 1859, 1860, 1861, 1862] (by decide +kernel) (by decide +kernel)) (goodIn_sub (fun _ h => List.mem_append_left _ (List.mem_append_left _ (List.mem_append_left _ (List.mem_append_left _ (List.mem_append_left _ (List.mem_append_left _ (List.mem_append_right _ h))))))) (by decide +kernel))
set_option maxRecDepth 20000 in
theorem gL_law_X18_recordAt : GoodIn wsL_law (wsV RL 239 RX18 yX18_recordAt wsX18_recordAt) := goodIn_app (goodIn_of _ (by decide +kernel)) ggL_law_X18_recordAt
set_option maxRecDepth 20000 in
theorem ggL_law_L_whereAt : GoodIn wsL_law wsL_whereAt := goodIn_ca (goodIn_ca (goodIn_ca (goodIn_r _ [1729, 386, 244, 1730, 1731, 1732, 2, 1733, 25, 1715, 1716, 1717, 1718, 250, 251, 1384, 1385, 1386, 1387, 391, 392, 36, 1700, 1701, 1702, 24, 1703, 130, 1162, 267, 268, 45, 269, 58, 1734, 1735, 1736, 1737, 1148, 302, 303, 304, 54, 57, 1784, 1785, 1786, 1787, 1788, 1789, 1790, 1791, 1792, 1871, 1872, 1873, 1874, 1875, 1876, 1877, 1878, 1879, 1880, 1908, 1909, 1910] (by decide +kernel) (by decide +kernel)) (goodIn_sub (fun _ h => List.mem_append_left _ (List.mem_append_left _ (List.mem_append_left _ (List.mem_append_left _ (List.mem_append_left _ (List.mem_append_left _ (List.mem_append_right _ h))))))) (by decide +kernel))) (goodIn_sub (fun _ h => List.mem_append_left _ (List.mem_append_left _ (List.mem_append_left _ (List.mem_append_left _ (List.mem_append_right _ h))))) (by decide +kernel))) (goodIn_sub (fun _ h => List.mem_append_left _ (List.mem_append_left _ (List.mem_append_right _ h))) (by decide +kernel))
set_option maxRecDepth 20000 in
theorem gL_law_L_whereAt : GoodIn wsL_law (va_wsS RL 240 yL_whereAt wsL_whereAt) := goodIn_app (goodIn_of _ (by decide +kernel)) ggL_law_L_whereAt
set_option maxRecDepth 20000 in
theorem ggL_law_X18_whereAt : GoodIn wsL_law wsX18_whereAt := goodIn_ca (goodIn_r _ [1741, 1274, 197, 1392, 1393, 1394, 5, 1395, 887, 230, 279, 280, 281, 233, 234, 235, 236, 1793, 1794, 1795, 1796, 1797, 1798, 1799, 1800, 1801, 1802, 1803, 1804, 1805, 1806, 1807, 1808, 1809, 1810, 1811, 1812, 1813, 1814, 1815, 1816, 1817, 1818, 1819, 1820, 1821, 1822, 1823, 1824, 1825, 1826, 1827, 1828, 1829, 1830, 1831, 1832, 1833, 1834, 1835, 1836, 1837, 1838, 1839, 1840, 1841, 1842, 1843, 1844, 1845, 1846, 1847, 1848, 1849, 1850, 1851, 1852, 1853, 1854, 1855, 1856, 1857, 1858, 1859, 1860, 1861, 1862] (by decide +kernel) (by decide +kernel)) (goodIn_sub (fun _ h => List.mem_append_left _ (List.mem_append_left _ (List.mem_append_left _ (List.mem_append_left _ (List.mem_append_left _ (List.mem_append_left _ (List.mem_append_right _ h))))))) (by decide +kernel))
set_option maxRecDepth 20000 in
theorem gL_law_X18_whereAt : GoodIn wsL_law (wsV RL 242 RX18 yX18_whereAt wsX18_whereAt) := goodIn_app (goodIn_of _ (by decide +kernel)) ggL_law_X18_whereAt
set_option maxRecDepth 20000 in
theorem ggL_law_X11_terms : GoodIn wsL_law wsX11_terms := goodIn_r _ [1745, 17, 1746, 1102, 1103, 16, 1104, 47, 266, 267, 268, 45, 269, 58, 1784, 1785, 1786, 1787, 1788, 1789, 1790, 1791, 1792, 1863, 1864, 1865, 1866, 1867, 1908, 1909, 1910] (by decide +kernel) (by decide +kernel)
set_option maxRecDepth 20000 in
theorem gL_law_X11_terms : GoodIn wsL_law (wsV RL 243 RX11 yX11_terms wsX11_terms) := goodIn_app (goodIn_of _ (by decide +kernel)) ggL_law_X11_terms
set_option maxRecDepth 20000 in
theorem ggL_law_X18_terms : GoodIn wsL_law wsX18_terms := goodIn_r _ [1750, 230, 357, 1793, 1794, 1795, 1796, 1797, 1798, 1799, 1800, 1801, 1802, 1803, 1804, 1805, 1806, 1807, 1808, 1809, 1810, 1811, 1812, 1813, 1814, 1815, 1816, 1817, 1818, 1819, 1820, 1821, 1822, 1823, 1824, 1825, 1826, 1827, 1828, 1829, 1830, 1831, 1832, 1833, 1834, 1835, 1836, 1837, 1838, 1839, 1840, 1841, 1842, 1843, 1844, 1845, 1846, 1847, 1848, 1849, 1850, 1851, 1852, 1853, 1854, 1855, 1856, 1857, 1858, 1859, 1860, 1861, 1862] (by decide +kernel) (by decide +kernel)
set_option maxRecDepth 20000 in
theorem gL_law_X18_terms : GoodIn wsL_law (wsV RL 246 RX18 yX18_terms wsX18_terms) := goodIn_app (goodIn_of _ (by decide +kernel)) ggL_law_X18_terms
set_option maxRecDepth 20000 in
theorem ggL_law_L_onceShare : GoodIn wsL_law wsL_onceShare := goodIn_ca (goodIn_ca (goodIn_ca (goodIn_r _ [1753, 211, 1754, 1755, 1756, 1757, 2, 1758, 1759, 1760, 21, 951, 952, 953, 954, 216, 217, 35, 1761, 1762, 1763, 20, 1764, 105, 736, 425, 426, 427, 103, 428, 429, 524, 525, 526, 527, 528, 529, 530, 531, 532, 533, 534, 535, 536, 537, 538, 539, 111, 1765, 1766, 1767, 1768, 1784, 1785, 1786, 1787, 1788, 1789, 1790, 1791, 1792, 1868, 1869, 1870, 1933, 1934, 1935, 1936, 1937, 1938, 1939, 1940, 1941, 1921, 1922, 1923] (by decide +kernel) (by decide +kernel)) (goodIn_sub (fun _ h => List.mem_append_left _ (List.mem_append_left _ (List.mem_append_left _ (List.mem_append_left _ (List.mem_append_left _ (List.mem_append_left _ (List.mem_append_right _ h))))))) (by decide +kernel))) (goodIn_sub (fun _ h => List.mem_append_right _ h) (by decide +kernel))) (goodIn_sub (fun _ h => List.mem_append_left _ (List.mem_append_left _ (List.mem_append_left _ (List.mem_append_left _ (List.mem_append_left _ (List.mem_append_right _ h)))))) (by decide +kernel))
set_option maxRecDepth 20000 in
theorem gL_law_L_onceShare : GoodIn wsL_law (va_wsS RL 247 yL_onceShare wsL_onceShare) := goodIn_app (goodIn_of _ (by decide +kernel)) ggL_law_L_onceShare
set_option maxRecDepth 20000 in
theorem ggL_law_X18_onceShare : GoodIn wsL_law wsX18_onceShare := goodIn_ca (goodIn_r _ [1772, 232, 230, 511, 173, 189, 191, 1793, 1794, 1795, 1796, 1797, 1798, 1799, 1800, 1801, 1802, 1803, 1804, 1805, 1806, 1807, 1808, 1809, 1810, 1811, 1812, 1813, 1814, 1815, 1816, 1817, 1818, 1819, 1820, 1821, 1822, 1823, 1824, 1825, 1826, 1827, 1828, 1829, 1830, 1831, 1832, 1833, 1834, 1835, 1836, 1837, 1838, 1839, 1840, 1841, 1842, 1843, 1844, 1845, 1846, 1847, 1848, 1849, 1850, 1851, 1852, 1853, 1854, 1855, 1856, 1857, 1858, 1859, 1860, 1861, 1862] (by decide +kernel) (by decide +kernel)) (goodIn_sub (fun _ h => List.mem_append_left _ (List.mem_append_left _ (List.mem_append_left _ (List.mem_append_left _ (List.mem_append_left _ (List.mem_append_left _ (List.mem_append_right _ h))))))) (by decide +kernel))
set_option maxRecDepth 20000 in
theorem gL_law_X18_onceShare : GoodIn wsL_law (wsV RL 250 RX18 yX18_onceShare wsX18_onceShare) := goodIn_app (goodIn_of _ (by decide +kernel)) ggL_law_X18_onceShare
set_option maxRecDepth 20000 in
theorem ggL_law_L_meanSteps : GoodIn wsL_law wsL_meanSteps := goodIn_ca (goodIn_ca (goodIn_r _ [1775, 1754, 1776, 1777, 1778, 2, 1779, 1759, 1760, 36, 37, 1784, 1785, 1786, 1787, 1788, 1789, 1790, 1791, 1792] (by decide +kernel) (by decide +kernel)) (goodIn_sub (fun _ h => List.mem_append_left _ (List.mem_append_left _ (List.mem_append_left _ (List.mem_append_left _ (List.mem_append_left _ (List.mem_append_left _ (List.mem_append_right _ h))))))) (by decide +kernel))) (goodIn_sub (fun _ h => List.mem_append_right _ h) (by decide +kernel))
set_option maxRecDepth 20000 in
theorem gL_law_L_meanSteps : GoodIn wsL_law (va_wsS RL 251 yL_meanSteps wsL_meanSteps) := goodIn_app (goodIn_of _ (by decide +kernel)) ggL_law_L_meanSteps
set_option maxRecDepth 20000 in
theorem ggL_law_X18_meanSteps : GoodIn wsL_law wsX18_meanSteps := goodIn_r _ [1783, 885, 230, 886, 1793, 1794, 1795, 1796, 1797, 1798, 1799, 1800, 1801, 1802, 1803, 1804, 1805, 1806, 1807, 1808, 1809, 1810, 1811, 1812, 1813, 1814, 1815, 1816, 1817, 1818, 1819, 1820, 1821, 1822, 1823, 1824, 1825, 1826, 1827, 1828, 1829, 1830, 1831, 1832, 1833, 1834, 1835, 1836, 1837, 1838, 1839, 1840, 1841, 1842, 1843, 1844, 1845, 1846, 1847, 1848, 1849, 1850, 1851, 1852, 1853, 1854, 1855, 1856, 1857, 1858, 1859, 1860, 1861, 1862] (by decide +kernel) (by decide +kernel)
set_option maxRecDepth 20000 in
theorem gL_law_X18_meanSteps : GoodIn wsL_law (wsV RL 253 RX18 yX18_meanSteps wsX18_meanSteps) := goodIn_app (goodIn_of _ (by decide +kernel)) ggL_law_X18_meanSteps
theorem dL_law_0 : decode cL_law 0 = .ok (.new 8, 3) := by decide +kernel
theorem dL_law_3 : decode cL_law 3 = .ok (.dup, 1) := by decide +kernel
theorem dL_law_4 : decode cL_law 4 = .ok (.invokespecial 134, 3) := by decide +kernel
theorem dL_law_7 : decode cL_law 7 = .ok (.astore_n 1, 1) := by decide +kernel
theorem dL_law_8 : decode cL_law 8 = .ok (.new 135, 3) := by decide +kernel
theorem dL_law_11 : decode cL_law 11 = .ok (.dup, 1) := by decide +kernel
theorem dL_law_12 : decode cL_law 12 = .ok (.invokespecial 137, 3) := by decide +kernel
theorem dL_law_15 : decode cL_law 15 = .ok (.astore_n 2, 1) := by decide +kernel
theorem dL_law_16 : decode cL_law 16 = .ok (.iconst 1, 1) := by decide +kernel
theorem dL_law_17 : decode cL_law 17 = .ok (.newarray .long, 2) := by decide +kernel
theorem dL_law_19 : decode cL_law 19 = .ok (.astore_n 3, 1) := by decide +kernel
theorem dL_law_20 : decode cL_law 20 = .ok (.iconst 1, 1) := by decide +kernel
theorem dL_law_21 : decode cL_law 21 = .ok (.newarray .double, 2) := by decide +kernel
theorem dL_law_23 : decode cL_law 23 = .ok (.astore 4, 2) := by decide +kernel
theorem dL_law_25 : decode cL_law 25 = .ok (.iconst 0, 1) := by decide +kernel
theorem dL_law_26 : decode cL_law 26 = .ok (.istore 5, 2) := by decide +kernel
theorem dL_law_28 : decode cL_law 28 = .ok (.iload 5, 2) := by decide +kernel
theorem dL_law_30 : decode cL_law 30 = .ok (.aload_n 0, 1) := by decide +kernel
theorem dL_law_31 : decode cL_law 31 = .ok (.arraylength, 1) := by decide +kernel
theorem dL_law_32 : decode cL_law 32 = .ok (.bipush 7, 2) := by decide +kernel
theorem dL_law_34 : decode cL_law 34 = .ok (.isub, 1) := by decide +kernel
theorem dL_law_35 : decode cL_law 35 = .ok (.if_icmp .gt 2361, 3) := by decide +kernel
theorem dL_law_38 : decode cL_law 38 = .ok (.aload_n 0, 1) := by decide +kernel
theorem dL_law_39 : decode cL_law 39 = .ok (.iload 5, 2) := by decide +kernel
theorem dL_law_41 : decode cL_law 41 = .ok (.iaload, 1) := by decide +kernel
theorem dL_law_42 : decode cL_law 42 = .ok (.bipush 63, 2) := by decide +kernel
theorem dL_law_44 : decode cL_law 44 = .ok (.iand, 1) := by decide +kernel
theorem dL_law_45 : decode cL_law 45 = .ok (.tableswitch 2345 0 33 #[151, 195, 275, 355, 411, 479, 534, 614, 696, 752, 856, 936, 1070, 1114, 1158, 1226, 1301, 1369, 1437, 1517, 1597, 1701, 1745, 1813, 1869, 1913, 1957, 2001, 2045, 2089, 2145, 2201, 2214, 2280], 151) := by decide +kernel
theorem dL_law_196 : decode cL_law 196 = .ok (.aload_n 1, 1) := by decide +kernel
theorem dL_law_197 : decode cL_law 197 = .ok (.aload_n 3, 1) := by decide +kernel
theorem dL_law_198 : decode cL_law 198 = .ok (.invokestatic 138, 3) := by decide +kernel
theorem dL_law_201 : decode cL_law 201 = .ok (.istore 6, 2) := by decide +kernel
theorem dL_law_203 : decode cL_law 203 = .ok (.aload_n 2, 1) := by decide +kernel
theorem dL_law_204 : decode cL_law 204 = .ok (.invokevirtual 143, 3) := by decide +kernel
theorem dL_law_207 : decode cL_law 207 = .ok (.istore 7, 2) := by decide +kernel
theorem dL_law_209 : decode cL_law 209 = .ok (.aload_n 2, 1) := by decide +kernel
theorem dL_law_210 : decode cL_law 210 = .ok (.invokevirtual 144, 3) := by decide +kernel
theorem dL_law_213 : decode cL_law 213 = .ok (.iload 6, 2) := by decide +kernel
theorem dL_law_215 : decode cL_law 215 = .ok (.if_icmp .eq 5, 3) := by decide +kernel
theorem dL_law_220 : decode cL_law 220 = .ok (.iload 6, 2) := by decide +kernel
theorem dL_law_222 : decode cL_law 222 = .ok (.ifCond .ne 15, 3) := by decide +kernel
theorem dL_law_225 : decode cL_law 225 = .ok (.aload_n 3, 1) := by decide +kernel
theorem dL_law_226 : decode cL_law 226 = .ok (.iconst 0, 1) := by decide +kernel
theorem dL_law_227 : decode cL_law 227 = .ok (.laload, 1) := by decide +kernel
theorem dL_law_228 : decode cL_law 228 = .ok (.iload 7, 2) := by decide +kernel
theorem dL_law_230 : decode cL_law 230 = .ok (.i2l, 1) := by decide +kernel
theorem dL_law_231 : decode cL_law 231 = .ok (.lcmp, 1) := by decide +kernel
theorem dL_law_232 : decode cL_law 232 = .ok (.ifCond .eq 5, 3) := by decide +kernel
theorem dL_law_237 : decode cL_law 237 = .ok (.goto 2153, 3) := by decide +kernel
theorem dL_law_240 : decode cL_law 240 = .ok (.aload_n 1, 1) := by decide +kernel
theorem dL_law_241 : decode cL_law 241 = .ok (.aload_n 0, 1) := by decide +kernel
theorem dL_law_242 : decode cL_law 242 = .ok (.iload 5, 2) := by decide +kernel
theorem dL_law_244 : decode cL_law 244 = .ok (.iconst 1, 1) := by decide +kernel
theorem dL_law_245 : decode cL_law 245 = .ok (.iadd, 1) := by decide +kernel
theorem dL_law_246 : decode cL_law 246 = .ok (.iaload, 1) := by decide +kernel
theorem dL_law_247 : decode cL_law 247 = .ok (.aload_n 0, 1) := by decide +kernel
theorem dL_law_248 : decode cL_law 248 = .ok (.iload 5, 2) := by decide +kernel
theorem dL_law_250 : decode cL_law 250 = .ok (.iconst 2, 1) := by decide +kernel
theorem dL_law_251 : decode cL_law 251 = .ok (.iadd, 1) := by decide +kernel
theorem dL_law_252 : decode cL_law 252 = .ok (.iaload, 1) := by decide +kernel
theorem dL_law_253 : decode cL_law 253 = .ok (.aload_n 0, 1) := by decide +kernel
theorem dL_law_254 : decode cL_law 254 = .ok (.iload 5, 2) := by decide +kernel
theorem dL_law_256 : decode cL_law 256 = .ok (.iconst 3, 1) := by decide +kernel
theorem dL_law_257 : decode cL_law 257 = .ok (.iadd, 1) := by decide +kernel
theorem dL_law_258 : decode cL_law 258 = .ok (.iaload, 1) := by decide +kernel
theorem dL_law_259 : decode cL_law 259 = .ok (.aload_n 3, 1) := by decide +kernel
theorem dL_law_260 : decode cL_law 260 = .ok (.invokestatic 147, 3) := by decide +kernel
theorem dL_law_263 : decode cL_law 263 = .ok (.istore 6, 2) := by decide +kernel
theorem dL_law_265 : decode cL_law 265 = .ok (.aload_n 2, 1) := by decide +kernel
theorem dL_law_266 : decode cL_law 266 = .ok (.aload_n 0, 1) := by decide +kernel
theorem dL_law_267 : decode cL_law 267 = .ok (.iload 5, 2) := by decide +kernel
theorem dL_law_269 : decode cL_law 269 = .ok (.iconst 1, 1) := by decide +kernel
theorem dL_law_270 : decode cL_law 270 = .ok (.iadd, 1) := by decide +kernel
theorem dL_law_271 : decode cL_law 271 = .ok (.iaload, 1) := by decide +kernel
theorem dL_law_272 : decode cL_law 272 = .ok (.aload_n 0, 1) := by decide +kernel
theorem dL_law_273 : decode cL_law 273 = .ok (.iload 5, 2) := by decide +kernel
theorem dL_law_275 : decode cL_law 275 = .ok (.iconst 2, 1) := by decide +kernel
theorem dL_law_276 : decode cL_law 276 = .ok (.iadd, 1) := by decide +kernel
theorem dL_law_277 : decode cL_law 277 = .ok (.iaload, 1) := by decide +kernel
theorem dL_law_278 : decode cL_law 278 = .ok (.aload_n 0, 1) := by decide +kernel
theorem dL_law_279 : decode cL_law 279 = .ok (.iload 5, 2) := by decide +kernel
theorem dL_law_281 : decode cL_law 281 = .ok (.iconst 3, 1) := by decide +kernel
theorem dL_law_282 : decode cL_law 282 = .ok (.iadd, 1) := by decide +kernel
theorem dL_law_283 : decode cL_law 283 = .ok (.iaload, 1) := by decide +kernel
theorem dL_law_284 : decode cL_law 284 = .ok (.invokevirtual 150, 3) := by decide +kernel
theorem dL_law_287 : decode cL_law 287 = .ok (.istore 7, 2) := by decide +kernel
theorem dL_law_289 : decode cL_law 289 = .ok (.aload_n 2, 1) := by decide +kernel
theorem dL_law_290 : decode cL_law 290 = .ok (.invokevirtual 144, 3) := by decide +kernel
theorem dL_law_293 : decode cL_law 293 = .ok (.iload 6, 2) := by decide +kernel
theorem dL_law_295 : decode cL_law 295 = .ok (.if_icmp .eq 5, 3) := by decide +kernel
theorem dL_law_300 : decode cL_law 300 = .ok (.iload 6, 2) := by decide +kernel
theorem dL_law_302 : decode cL_law 302 = .ok (.ifCond .ne 15, 3) := by decide +kernel
theorem dL_law_317 : decode cL_law 317 = .ok (.goto 2073, 3) := by decide +kernel
theorem dL_law_320 : decode cL_law 320 = .ok (.aload_n 1, 1) := by decide +kernel
theorem dL_law_321 : decode cL_law 321 = .ok (.aload_n 0, 1) := by decide +kernel
theorem dL_law_322 : decode cL_law 322 = .ok (.iload 5, 2) := by decide +kernel
theorem dL_law_324 : decode cL_law 324 = .ok (.iconst 1, 1) := by decide +kernel
theorem dL_law_325 : decode cL_law 325 = .ok (.iadd, 1) := by decide +kernel
theorem dL_law_326 : decode cL_law 326 = .ok (.iaload, 1) := by decide +kernel
theorem dL_law_327 : decode cL_law 327 = .ok (.aload_n 0, 1) := by decide +kernel
theorem dL_law_328 : decode cL_law 328 = .ok (.iload 5, 2) := by decide +kernel
theorem dL_law_330 : decode cL_law 330 = .ok (.iconst 2, 1) := by decide +kernel
theorem dL_law_331 : decode cL_law 331 = .ok (.iadd, 1) := by decide +kernel
theorem dL_law_332 : decode cL_law 332 = .ok (.iaload, 1) := by decide +kernel
theorem dL_law_333 : decode cL_law 333 = .ok (.aload_n 0, 1) := by decide +kernel
theorem dL_law_334 : decode cL_law 334 = .ok (.iload 5, 2) := by decide +kernel
theorem dL_law_336 : decode cL_law 336 = .ok (.iconst 3, 1) := by decide +kernel
theorem dL_law_337 : decode cL_law 337 = .ok (.iadd, 1) := by decide +kernel
theorem dL_law_338 : decode cL_law 338 = .ok (.iaload, 1) := by decide +kernel
theorem dL_law_339 : decode cL_law 339 = .ok (.aload_n 3, 1) := by decide +kernel
theorem dL_law_340 : decode cL_law 340 = .ok (.invokestatic 151, 3) := by decide +kernel
theorem dL_law_343 : decode cL_law 343 = .ok (.istore 6, 2) := by decide +kernel
theorem dL_law_345 : decode cL_law 345 = .ok (.aload_n 2, 1) := by decide +kernel
theorem dL_law_346 : decode cL_law 346 = .ok (.aload_n 0, 1) := by decide +kernel
theorem dL_law_347 : decode cL_law 347 = .ok (.iload 5, 2) := by decide +kernel
theorem dL_law_349 : decode cL_law 349 = .ok (.iconst 1, 1) := by decide +kernel
theorem dL_law_350 : decode cL_law 350 = .ok (.iadd, 1) := by decide +kernel
theorem dL_law_351 : decode cL_law 351 = .ok (.iaload, 1) := by decide +kernel
theorem dL_law_352 : decode cL_law 352 = .ok (.aload_n 0, 1) := by decide +kernel
theorem dL_law_353 : decode cL_law 353 = .ok (.iload 5, 2) := by decide +kernel
theorem dL_law_355 : decode cL_law 355 = .ok (.iconst 2, 1) := by decide +kernel
theorem dL_law_356 : decode cL_law 356 = .ok (.iadd, 1) := by decide +kernel
theorem dL_law_357 : decode cL_law 357 = .ok (.iaload, 1) := by decide +kernel
theorem dL_law_358 : decode cL_law 358 = .ok (.aload_n 0, 1) := by decide +kernel
theorem dL_law_359 : decode cL_law 359 = .ok (.iload 5, 2) := by decide +kernel
theorem dL_law_361 : decode cL_law 361 = .ok (.iconst 3, 1) := by decide +kernel
theorem dL_law_362 : decode cL_law 362 = .ok (.iadd, 1) := by decide +kernel
theorem dL_law_363 : decode cL_law 363 = .ok (.iaload, 1) := by decide +kernel
theorem dL_law_364 : decode cL_law 364 = .ok (.invokevirtual 153, 3) := by decide +kernel
theorem dL_law_367 : decode cL_law 367 = .ok (.istore 7, 2) := by decide +kernel
theorem dL_law_369 : decode cL_law 369 = .ok (.aload_n 2, 1) := by decide +kernel
theorem dL_law_370 : decode cL_law 370 = .ok (.invokevirtual 144, 3) := by decide +kernel
theorem dL_law_373 : decode cL_law 373 = .ok (.iload 6, 2) := by decide +kernel
theorem dL_law_375 : decode cL_law 375 = .ok (.if_icmp .eq 5, 3) := by decide +kernel
theorem dL_law_380 : decode cL_law 380 = .ok (.iload 6, 2) := by decide +kernel
theorem dL_law_382 : decode cL_law 382 = .ok (.ifCond .ne 15, 3) := by decide +kernel
theorem dL_law_397 : decode cL_law 397 = .ok (.goto 1993, 3) := by decide +kernel
theorem dL_law_400 : decode cL_law 400 = .ok (.aload_n 1, 1) := by decide +kernel
theorem dL_law_401 : decode cL_law 401 = .ok (.aload_n 0, 1) := by decide +kernel
theorem dL_law_402 : decode cL_law 402 = .ok (.iload 5, 2) := by decide +kernel
theorem dL_law_404 : decode cL_law 404 = .ok (.iconst 1, 1) := by decide +kernel
theorem dL_law_405 : decode cL_law 405 = .ok (.iadd, 1) := by decide +kernel
theorem dL_law_406 : decode cL_law 406 = .ok (.iaload, 1) := by decide +kernel
theorem dL_law_407 : decode cL_law 407 = .ok (.aload_n 3, 1) := by decide +kernel
theorem dL_law_408 : decode cL_law 408 = .ok (.invokestatic 154, 3) := by decide +kernel
theorem dL_law_411 : decode cL_law 411 = .ok (.istore 6, 2) := by decide +kernel
theorem dL_law_413 : decode cL_law 413 = .ok (.aload_n 2, 1) := by decide +kernel
theorem dL_law_414 : decode cL_law 414 = .ok (.aload_n 0, 1) := by decide +kernel
theorem dL_law_415 : decode cL_law 415 = .ok (.iload 5, 2) := by decide +kernel
theorem dL_law_417 : decode cL_law 417 = .ok (.iconst 1, 1) := by decide +kernel
theorem dL_law_418 : decode cL_law 418 = .ok (.iadd, 1) := by decide +kernel
theorem dL_law_419 : decode cL_law 419 = .ok (.iaload, 1) := by decide +kernel
theorem dL_law_420 : decode cL_law 420 = .ok (.invokevirtual 157, 3) := by decide +kernel
theorem dL_law_423 : decode cL_law 423 = .ok (.istore 7, 2) := by decide +kernel
theorem dL_law_425 : decode cL_law 425 = .ok (.aload_n 2, 1) := by decide +kernel
theorem dL_law_426 : decode cL_law 426 = .ok (.invokevirtual 144, 3) := by decide +kernel
theorem dL_law_429 : decode cL_law 429 = .ok (.iload 6, 2) := by decide +kernel
theorem dL_law_431 : decode cL_law 431 = .ok (.if_icmp .eq 5, 3) := by decide +kernel
theorem dL_law_436 : decode cL_law 436 = .ok (.iload 6, 2) := by decide +kernel
theorem dL_law_438 : decode cL_law 438 = .ok (.ifCond .ne 15, 3) := by decide +kernel
theorem dL_law_453 : decode cL_law 453 = .ok (.goto 1937, 3) := by decide +kernel
theorem dL_law_456 : decode cL_law 456 = .ok (.aload_n 1, 1) := by decide +kernel
theorem dL_law_457 : decode cL_law 457 = .ok (.aload_n 0, 1) := by decide +kernel
theorem dL_law_458 : decode cL_law 458 = .ok (.iload 5, 2) := by decide +kernel
theorem dL_law_460 : decode cL_law 460 = .ok (.iconst 1, 1) := by decide +kernel
theorem dL_law_461 : decode cL_law 461 = .ok (.iadd, 1) := by decide +kernel
theorem dL_law_462 : decode cL_law 462 = .ok (.iaload, 1) := by decide +kernel
theorem dL_law_463 : decode cL_law 463 = .ok (.aload_n 0, 1) := by decide +kernel
theorem dL_law_464 : decode cL_law 464 = .ok (.iload 5, 2) := by decide +kernel
theorem dL_law_466 : decode cL_law 466 = .ok (.iconst 2, 1) := by decide +kernel
theorem dL_law_467 : decode cL_law 467 = .ok (.iadd, 1) := by decide +kernel
theorem dL_law_468 : decode cL_law 468 = .ok (.iaload, 1) := by decide +kernel
theorem dL_law_469 : decode cL_law 469 = .ok (.aload_n 3, 1) := by decide +kernel
theorem dL_law_470 : decode cL_law 470 = .ok (.invokestatic 158, 3) := by decide +kernel
theorem dL_law_473 : decode cL_law 473 = .ok (.istore 6, 2) := by decide +kernel
theorem dL_law_475 : decode cL_law 475 = .ok (.aload_n 2, 1) := by decide +kernel
theorem dL_law_476 : decode cL_law 476 = .ok (.aload_n 0, 1) := by decide +kernel
theorem dL_law_477 : decode cL_law 477 = .ok (.iload 5, 2) := by decide +kernel
theorem dL_law_479 : decode cL_law 479 = .ok (.iconst 1, 1) := by decide +kernel
theorem dL_law_480 : decode cL_law 480 = .ok (.iadd, 1) := by decide +kernel
theorem dL_law_481 : decode cL_law 481 = .ok (.iaload, 1) := by decide +kernel
theorem dL_law_482 : decode cL_law 482 = .ok (.aload_n 0, 1) := by decide +kernel
theorem dL_law_483 : decode cL_law 483 = .ok (.iload 5, 2) := by decide +kernel
theorem dL_law_485 : decode cL_law 485 = .ok (.iconst 2, 1) := by decide +kernel
theorem dL_law_486 : decode cL_law 486 = .ok (.iadd, 1) := by decide +kernel
theorem dL_law_487 : decode cL_law 487 = .ok (.iaload, 1) := by decide +kernel
theorem dL_law_488 : decode cL_law 488 = .ok (.invokevirtual 161, 3) := by decide +kernel
theorem dL_law_491 : decode cL_law 491 = .ok (.istore 7, 2) := by decide +kernel
theorem dL_law_493 : decode cL_law 493 = .ok (.aload_n 2, 1) := by decide +kernel
theorem dL_law_494 : decode cL_law 494 = .ok (.invokevirtual 144, 3) := by decide +kernel
theorem dL_law_497 : decode cL_law 497 = .ok (.iload 6, 2) := by decide +kernel
theorem dL_law_499 : decode cL_law 499 = .ok (.if_icmp .eq 5, 3) := by decide +kernel
theorem dL_law_504 : decode cL_law 504 = .ok (.iload 6, 2) := by decide +kernel
theorem dL_law_506 : decode cL_law 506 = .ok (.ifCond .ne 15, 3) := by decide +kernel
theorem dL_law_521 : decode cL_law 521 = .ok (.goto 1869, 3) := by decide +kernel
theorem dL_law_524 : decode cL_law 524 = .ok (.aload_n 1, 1) := by decide +kernel
theorem dL_law_525 : decode cL_law 525 = .ok (.aload_n 0, 1) := by decide +kernel
theorem dL_law_526 : decode cL_law 526 = .ok (.iload 5, 2) := by decide +kernel
theorem dL_law_528 : decode cL_law 528 = .ok (.iconst 1, 1) := by decide +kernel
theorem dL_law_529 : decode cL_law 529 = .ok (.iadd, 1) := by decide +kernel
theorem dL_law_530 : decode cL_law 530 = .ok (.iaload, 1) := by decide +kernel
theorem dL_law_531 : decode cL_law 531 = .ok (.aload_n 3, 1) := by decide +kernel
theorem dL_law_532 : decode cL_law 532 = .ok (.invokestatic 162, 3) := by decide +kernel
theorem dL_law_535 : decode cL_law 535 = .ok (.istore 6, 2) := by decide +kernel
theorem dL_law_537 : decode cL_law 537 = .ok (.aload_n 2, 1) := by decide +kernel
theorem dL_law_538 : decode cL_law 538 = .ok (.aload_n 0, 1) := by decide +kernel
theorem dL_law_539 : decode cL_law 539 = .ok (.iload 5, 2) := by decide +kernel
theorem dL_law_541 : decode cL_law 541 = .ok (.iconst 1, 1) := by decide +kernel
theorem dL_law_542 : decode cL_law 542 = .ok (.iadd, 1) := by decide +kernel
theorem dL_law_543 : decode cL_law 543 = .ok (.iaload, 1) := by decide +kernel
theorem dL_law_544 : decode cL_law 544 = .ok (.invokevirtual 164, 3) := by decide +kernel
theorem dL_law_547 : decode cL_law 547 = .ok (.lstore 7, 2) := by decide +kernel
theorem dL_law_549 : decode cL_law 549 = .ok (.aload_n 2, 1) := by decide +kernel
theorem dL_law_550 : decode cL_law 550 = .ok (.invokevirtual 144, 3) := by decide +kernel
theorem dL_law_553 : decode cL_law 553 = .ok (.iload 6, 2) := by decide +kernel
theorem dL_law_555 : decode cL_law 555 = .ok (.if_icmp .eq 5, 3) := by decide +kernel
theorem dL_law_560 : decode cL_law 560 = .ok (.iload 6, 2) := by decide +kernel
theorem dL_law_562 : decode cL_law 562 = .ok (.ifCond .ne 14, 3) := by decide +kernel
theorem dL_law_576 : decode cL_law 576 = .ok (.goto 1814, 3) := by decide +kernel
theorem dL_law_579 : decode cL_law 579 = .ok (.aload_n 1, 1) := by decide +kernel
theorem dL_law_580 : decode cL_law 580 = .ok (.aload_n 0, 1) := by decide +kernel
theorem dL_law_581 : decode cL_law 581 = .ok (.iload 5, 2) := by decide +kernel
theorem dL_law_583 : decode cL_law 583 = .ok (.iconst 1, 1) := by decide +kernel
theorem dL_law_584 : decode cL_law 584 = .ok (.iadd, 1) := by decide +kernel
theorem dL_law_585 : decode cL_law 585 = .ok (.iaload, 1) := by decide +kernel
theorem dL_law_586 : decode cL_law 586 = .ok (.aload_n 0, 1) := by decide +kernel
theorem dL_law_587 : decode cL_law 587 = .ok (.iload 5, 2) := by decide +kernel
theorem dL_law_589 : decode cL_law 589 = .ok (.iconst 2, 1) := by decide +kernel
theorem dL_law_590 : decode cL_law 590 = .ok (.iadd, 1) := by decide +kernel
theorem dL_law_591 : decode cL_law 591 = .ok (.iaload, 1) := by decide +kernel
theorem dL_law_592 : decode cL_law 592 = .ok (.aload_n 0, 1) := by decide +kernel
theorem dL_law_593 : decode cL_law 593 = .ok (.iload 5, 2) := by decide +kernel
theorem dL_law_595 : decode cL_law 595 = .ok (.iconst 3, 1) := by decide +kernel
theorem dL_law_596 : decode cL_law 596 = .ok (.iadd, 1) := by decide +kernel
theorem dL_law_597 : decode cL_law 597 = .ok (.iaload, 1) := by decide +kernel
theorem dL_law_598 : decode cL_law 598 = .ok (.aload_n 3, 1) := by decide +kernel
theorem dL_law_599 : decode cL_law 599 = .ok (.invokestatic 165, 3) := by decide +kernel
theorem dL_law_602 : decode cL_law 602 = .ok (.istore 6, 2) := by decide +kernel
theorem dL_law_604 : decode cL_law 604 = .ok (.aload_n 2, 1) := by decide +kernel
theorem dL_law_605 : decode cL_law 605 = .ok (.aload_n 0, 1) := by decide +kernel
theorem dL_law_606 : decode cL_law 606 = .ok (.iload 5, 2) := by decide +kernel
theorem dL_law_608 : decode cL_law 608 = .ok (.iconst 1, 1) := by decide +kernel
theorem dL_law_609 : decode cL_law 609 = .ok (.iadd, 1) := by decide +kernel
theorem dL_law_610 : decode cL_law 610 = .ok (.iaload, 1) := by decide +kernel
theorem dL_law_611 : decode cL_law 611 = .ok (.aload_n 0, 1) := by decide +kernel
theorem dL_law_612 : decode cL_law 612 = .ok (.iload 5, 2) := by decide +kernel
theorem dL_law_614 : decode cL_law 614 = .ok (.iconst 2, 1) := by decide +kernel
theorem dL_law_615 : decode cL_law 615 = .ok (.iadd, 1) := by decide +kernel
theorem dL_law_616 : decode cL_law 616 = .ok (.iaload, 1) := by decide +kernel
theorem dL_law_617 : decode cL_law 617 = .ok (.aload_n 0, 1) := by decide +kernel
theorem dL_law_618 : decode cL_law 618 = .ok (.iload 5, 2) := by decide +kernel
theorem dL_law_620 : decode cL_law 620 = .ok (.iconst 3, 1) := by decide +kernel
theorem dL_law_621 : decode cL_law 621 = .ok (.iadd, 1) := by decide +kernel
theorem dL_law_622 : decode cL_law 622 = .ok (.iaload, 1) := by decide +kernel
theorem dL_law_623 : decode cL_law 623 = .ok (.invokevirtual 167, 3) := by decide +kernel
theorem dL_law_626 : decode cL_law 626 = .ok (.istore 7, 2) := by decide +kernel
theorem dL_law_628 : decode cL_law 628 = .ok (.aload_n 2, 1) := by decide +kernel
theorem dL_law_629 : decode cL_law 629 = .ok (.invokevirtual 144, 3) := by decide +kernel
theorem dL_law_632 : decode cL_law 632 = .ok (.iload 6, 2) := by decide +kernel
theorem dL_law_634 : decode cL_law 634 = .ok (.if_icmp .eq 5, 3) := by decide +kernel
theorem dL_law_639 : decode cL_law 639 = .ok (.iload 6, 2) := by decide +kernel
theorem dL_law_641 : decode cL_law 641 = .ok (.ifCond .ne 15, 3) := by decide +kernel
theorem dL_law_644 : decode cL_law 644 = .ok (.aload_n 3, 1) := by decide +kernel
theorem dL_law_645 : decode cL_law 645 = .ok (.iconst 0, 1) := by decide +kernel
theorem dL_law_646 : decode cL_law 646 = .ok (.laload, 1) := by decide +kernel
theorem dL_law_647 : decode cL_law 647 = .ok (.iload 7, 2) := by decide +kernel
theorem dL_law_649 : decode cL_law 649 = .ok (.i2l, 1) := by decide +kernel
theorem dL_law_650 : decode cL_law 650 = .ok (.lcmp, 1) := by decide +kernel
theorem dL_law_651 : decode cL_law 651 = .ok (.ifCond .eq 5, 3) := by decide +kernel
theorem dL_law_656 : decode cL_law 656 = .ok (.goto 1734, 3) := by decide +kernel
theorem dL_law_659 : decode cL_law 659 = .ok (.aload_n 1, 1) := by decide +kernel
theorem dL_law_660 : decode cL_law 660 = .ok (.aload_n 0, 1) := by decide +kernel
theorem dL_law_661 : decode cL_law 661 = .ok (.iload 5, 2) := by decide +kernel
theorem dL_law_663 : decode cL_law 663 = .ok (.iconst 1, 1) := by decide +kernel
theorem dL_law_664 : decode cL_law 664 = .ok (.iadd, 1) := by decide +kernel
theorem dL_law_665 : decode cL_law 665 = .ok (.iaload, 1) := by decide +kernel
theorem dL_law_666 : decode cL_law 666 = .ok (.aload_n 0, 1) := by decide +kernel
theorem dL_law_667 : decode cL_law 667 = .ok (.iload 5, 2) := by decide +kernel
theorem dL_law_669 : decode cL_law 669 = .ok (.iconst 2, 1) := by decide +kernel
theorem dL_law_670 : decode cL_law 670 = .ok (.iadd, 1) := by decide +kernel
theorem dL_law_671 : decode cL_law 671 = .ok (.iaload, 1) := by decide +kernel
theorem dL_law_672 : decode cL_law 672 = .ok (.aload_n 0, 1) := by decide +kernel
theorem dL_law_673 : decode cL_law 673 = .ok (.iload 5, 2) := by decide +kernel
theorem dL_law_675 : decode cL_law 675 = .ok (.iconst 3, 1) := by decide +kernel
theorem dL_law_676 : decode cL_law 676 = .ok (.iadd, 1) := by decide +kernel
theorem dL_law_677 : decode cL_law 677 = .ok (.iaload, 1) := by decide +kernel
theorem dL_law_678 : decode cL_law 678 = .ok (.i2c, 1) := by decide +kernel
theorem dL_law_679 : decode cL_law 679 = .ok (.aload_n 3, 1) := by decide +kernel
theorem dL_law_680 : decode cL_law 680 = .ok (.invokestatic 168, 3) := by decide +kernel
theorem dL_law_683 : decode cL_law 683 = .ok (.istore 6, 2) := by decide +kernel
theorem dL_law_685 : decode cL_law 685 = .ok (.aload_n 2, 1) := by decide +kernel
theorem dL_law_686 : decode cL_law 686 = .ok (.aload_n 0, 1) := by decide +kernel
theorem dL_law_687 : decode cL_law 687 = .ok (.iload 5, 2) := by decide +kernel
theorem dL_law_689 : decode cL_law 689 = .ok (.iconst 1, 1) := by decide +kernel
theorem dL_law_690 : decode cL_law 690 = .ok (.iadd, 1) := by decide +kernel
theorem dL_law_691 : decode cL_law 691 = .ok (.iaload, 1) := by decide +kernel
theorem dL_law_692 : decode cL_law 692 = .ok (.aload_n 0, 1) := by decide +kernel
theorem dL_law_693 : decode cL_law 693 = .ok (.iload 5, 2) := by decide +kernel
theorem dL_law_695 : decode cL_law 695 = .ok (.iconst 2, 1) := by decide +kernel
theorem dL_law_696 : decode cL_law 696 = .ok (.iadd, 1) := by decide +kernel
theorem dL_law_697 : decode cL_law 697 = .ok (.iaload, 1) := by decide +kernel
theorem dL_law_698 : decode cL_law 698 = .ok (.aload_n 0, 1) := by decide +kernel
theorem dL_law_699 : decode cL_law 699 = .ok (.iload 5, 2) := by decide +kernel
theorem dL_law_701 : decode cL_law 701 = .ok (.iconst 3, 1) := by decide +kernel
theorem dL_law_702 : decode cL_law 702 = .ok (.iadd, 1) := by decide +kernel
theorem dL_law_703 : decode cL_law 703 = .ok (.iaload, 1) := by decide +kernel
theorem dL_law_704 : decode cL_law 704 = .ok (.i2c, 1) := by decide +kernel
theorem dL_law_705 : decode cL_law 705 = .ok (.invokevirtual 171, 3) := by decide +kernel
theorem dL_law_708 : decode cL_law 708 = .ok (.istore 7, 2) := by decide +kernel
theorem dL_law_710 : decode cL_law 710 = .ok (.aload_n 2, 1) := by decide +kernel
