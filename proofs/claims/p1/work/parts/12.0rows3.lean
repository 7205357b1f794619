theorem dL_law_1814 : decode code 1814 = .ok (.aload_n 0, 1) := by decide +kernel
theorem dL_law_1815 : decode code 1815 = .ok (.iload_n 3, 1) := by decide +kernel
theorem dL_law_1816 : decode code 1816 = .ok (.iconst 1, 1) := by decide +kernel
theorem dL_law_1817 : decode code 1817 = .ok (.iadd, 1) := by decide +kernel
theorem dL_law_1818 : decode code 1818 = .ok (.iaload, 1) := by decide +kernel
theorem dL_law_1819 : decode code 1819 = .ok (.invokevirtual 261, 3) := by decide +kernel
theorem dL_law_1822 : decode code 1822 = .ok (.if_icmp .eq 184, 3) := by decide +kernel
theorem dL_law_1827 : decode code 1827 = .ok (.aload_n 1, 1) := by decide +kernel
theorem dL_law_1828 : decode code 1828 = .ok (.aload_n 0, 1) := by decide +kernel
theorem dL_law_1829 : decode code 1829 = .ok (.iload_n 3, 1) := by decide +kernel
theorem dL_law_1830 : decode code 1830 = .ok (.iconst 1, 1) := by decide +kernel
theorem dL_law_1831 : decode code 1831 = .ok (.iadd, 1) := by decide +kernel
theorem dL_law_1832 : decode code 1832 = .ok (.iaload, 1) := by decide +kernel
theorem dL_law_1833 : decode code 1833 = .ok (.aload_n 0, 1) := by decide +kernel
theorem dL_law_1834 : decode code 1834 = .ok (.iload_n 3, 1) := by decide +kernel
theorem dL_law_1835 : decode code 1835 = .ok (.iconst 2, 1) := by decide +kernel
theorem dL_law_1836 : decode code 1836 = .ok (.iadd, 1) := by decide +kernel
theorem dL_law_1837 : decode code 1837 = .ok (.iaload, 1) := by decide +kernel
theorem dL_law_1838 : decode code 1838 = .ok (.aload_n 0, 1) := by decide +kernel
theorem dL_law_1839 : decode code 1839 = .ok (.iload_n 3, 1) := by decide +kernel
theorem dL_law_1840 : decode code 1840 = .ok (.iconst 3, 1) := by decide +kernel
theorem dL_law_1841 : decode code 1841 = .ok (.iadd, 1) := by decide +kernel
theorem dL_law_1842 : decode code 1842 = .ok (.iaload, 1) := by decide +kernel
theorem dL_law_1843 : decode code 1843 = .ok (.invokevirtual 262, 3) := by decide +kernel
theorem dL_law_1846 : decode code 1846 = .ok (.aload_n 2, 1) := by decide +kernel
theorem dL_law_1847 : decode code 1847 = .ok (.aload_n 0, 1) := by decide +kernel
theorem dL_law_1848 : decode code 1848 = .ok (.iload_n 3, 1) := by decide +kernel
theorem dL_law_1849 : decode code 1849 = .ok (.iconst 1, 1) := by decide +kernel
theorem dL_law_1850 : decode code 1850 = .ok (.iadd, 1) := by decide +kernel
theorem dL_law_1851 : decode code 1851 = .ok (.iaload, 1) := by decide +kernel
theorem dL_law_1852 : decode code 1852 = .ok (.aload_n 0, 1) := by decide +kernel
theorem dL_law_1853 : decode code 1853 = .ok (.iload_n 3, 1) := by decide +kernel
theorem dL_law_1854 : decode code 1854 = .ok (.iconst 2, 1) := by decide +kernel
theorem dL_law_1855 : decode code 1855 = .ok (.iadd, 1) := by decide +kernel
theorem dL_law_1856 : decode code 1856 = .ok (.iaload, 1) := by decide +kernel
theorem dL_law_1857 : decode code 1857 = .ok (.aload_n 0, 1) := by decide +kernel
theorem dL_law_1858 : decode code 1858 = .ok (.iload_n 3, 1) := by decide +kernel
theorem dL_law_1859 : decode code 1859 = .ok (.iconst 3, 1) := by decide +kernel
theorem dL_law_1860 : decode code 1860 = .ok (.iadd, 1) := by decide +kernel
theorem dL_law_1861 : decode code 1861 = .ok (.iaload, 1) := by decide +kernel
theorem dL_law_1862 : decode code 1862 = .ok (.invokevirtual 265, 3) := by decide +kernel
theorem dL_law_1865 : decode code 1865 = .ok (.if_icmp .eq 141, 3) := by decide +kernel
theorem dL_law_1870 : decode code 1870 = .ok (.aload_n 1, 1) := by decide +kernel
theorem dL_law_1871 : decode code 1871 = .ok (.aload_n 0, 1) := by decide +kernel
theorem dL_law_1872 : decode code 1872 = .ok (.iload_n 3, 1) := by decide +kernel
theorem dL_law_1873 : decode code 1873 = .ok (.iconst 1, 1) := by decide +kernel
theorem dL_law_1874 : decode code 1874 = .ok (.iadd, 1) := by decide +kernel
theorem dL_law_1875 : decode code 1875 = .ok (.iaload, 1) := by decide +kernel
theorem dL_law_1876 : decode code 1876 = .ok (.aload_n 0, 1) := by decide +kernel
theorem dL_law_1877 : decode code 1877 = .ok (.iload_n 3, 1) := by decide +kernel
theorem dL_law_1878 : decode code 1878 = .ok (.iconst 2, 1) := by decide +kernel
theorem dL_law_1879 : decode code 1879 = .ok (.iadd, 1) := by decide +kernel
theorem dL_law_1880 : decode code 1880 = .ok (.iaload, 1) := by decide +kernel
theorem dL_law_1881 : decode code 1881 = .ok (.aload_n 0, 1) := by decide +kernel
theorem dL_law_1882 : decode code 1882 = .ok (.iload_n 3, 1) := by decide +kernel
theorem dL_law_1883 : decode code 1883 = .ok (.iconst 3, 1) := by decide +kernel
theorem dL_law_1884 : decode code 1884 = .ok (.iadd, 1) := by decide +kernel
theorem dL_law_1885 : decode code 1885 = .ok (.iaload, 1) := by decide +kernel
theorem dL_law_1886 : decode code 1886 = .ok (.i2l, 1) := by decide +kernel
theorem dL_law_1887 : decode code 1887 = .ok (.bipush 32, 2) := by decide +kernel
theorem dL_law_1889 : decode code 1889 = .ok (.lshl, 1) := by decide +kernel
theorem dL_law_1890 : decode code 1890 = .ok (.aload_n 0, 1) := by decide +kernel
theorem dL_law_1891 : decode code 1891 = .ok (.iload_n 3, 1) := by decide +kernel
theorem dL_law_1892 : decode code 1892 = .ok (.iconst 4, 1) := by decide +kernel
theorem dL_law_1893 : decode code 1893 = .ok (.iadd, 1) := by decide +kernel
theorem dL_law_1894 : decode code 1894 = .ok (.iaload, 1) := by decide +kernel
theorem dL_law_1895 : decode code 1895 = .ok (.i2l, 1) := by decide +kernel
theorem dL_law_1896 : decode code 1896 = .ok (.ldc2_w 266, 3) := by decide +kernel
theorem dL_law_1899 : decode code 1899 = .ok (.land, 1) := by decide +kernel
theorem dL_law_1900 : decode code 1900 = .ok (.lor, 1) := by decide +kernel
theorem dL_law_1901 : decode code 1901 = .ok (.invokevirtual 268, 3) := by decide +kernel
theorem dL_law_1904 : decode code 1904 = .ok (.aload_n 2, 1) := by decide +kernel
theorem dL_law_1905 : decode code 1905 = .ok (.aload_n 0, 1) := by decide +kernel
theorem dL_law_1906 : decode code 1906 = .ok (.iload_n 3, 1) := by decide +kernel
theorem dL_law_1907 : decode code 1907 = .ok (.iconst 1, 1) := by decide +kernel
theorem dL_law_1908 : decode code 1908 = .ok (.iadd, 1) := by decide +kernel
theorem dL_law_1909 : decode code 1909 = .ok (.iaload, 1) := by decide +kernel
theorem dL_law_1910 : decode code 1910 = .ok (.aload_n 0, 1) := by decide +kernel
theorem dL_law_1911 : decode code 1911 = .ok (.iload_n 3, 1) := by decide +kernel
theorem dL_law_1912 : decode code 1912 = .ok (.iconst 2, 1) := by decide +kernel
theorem dL_law_1913 : decode code 1913 = .ok (.iadd, 1) := by decide +kernel
theorem dL_law_1914 : decode code 1914 = .ok (.iaload, 1) := by decide +kernel
theorem dL_law_1915 : decode code 1915 = .ok (.aload_n 0, 1) := by decide +kernel
theorem dL_law_1916 : decode code 1916 = .ok (.iload_n 3, 1) := by decide +kernel
theorem dL_law_1917 : decode code 1917 = .ok (.iconst 3, 1) := by decide +kernel
theorem dL_law_1918 : decode code 1918 = .ok (.iadd, 1) := by decide +kernel
theorem dL_law_1919 : decode code 1919 = .ok (.iaload, 1) := by decide +kernel
theorem dL_law_1920 : decode code 1920 = .ok (.i2l, 1) := by decide +kernel
theorem dL_law_1921 : decode code 1921 = .ok (.bipush 32, 2) := by decide +kernel
theorem dL_law_1923 : decode code 1923 = .ok (.lshl, 1) := by decide +kernel
theorem dL_law_1924 : decode code 1924 = .ok (.aload_n 0, 1) := by decide +kernel
theorem dL_law_1925 : decode code 1925 = .ok (.iload_n 3, 1) := by decide +kernel
theorem dL_law_1926 : decode code 1926 = .ok (.iconst 4, 1) := by decide +kernel
theorem dL_law_1927 : decode code 1927 = .ok (.iadd, 1) := by decide +kernel
theorem dL_law_1928 : decode code 1928 = .ok (.iaload, 1) := by decide +kernel
theorem dL_law_1929 : decode code 1929 = .ok (.i2l, 1) := by decide +kernel
theorem dL_law_1930 : decode code 1930 = .ok (.ldc2_w 266, 3) := by decide +kernel
theorem dL_law_1933 : decode code 1933 = .ok (.land, 1) := by decide +kernel
theorem dL_law_1934 : decode code 1934 = .ok (.lor, 1) := by decide +kernel
theorem dL_law_1935 : decode code 1935 = .ok (.invokevirtual 272, 3) := by decide +kernel
theorem dL_law_1938 : decode code 1938 = .ok (.if_icmp .eq 68, 3) := by decide +kernel
theorem dL_law_1943 : decode code 1943 = .ok (.aload_n 1, 1) := by decide +kernel
theorem dL_law_1944 : decode code 1944 = .ok (.aload_n 0, 1) := by decide +kernel
theorem dL_law_1945 : decode code 1945 = .ok (.iload_n 3, 1) := by decide +kernel
theorem dL_law_1946 : decode code 1946 = .ok (.iconst 1, 1) := by decide +kernel
theorem dL_law_1947 : decode code 1947 = .ok (.iadd, 1) := by decide +kernel
theorem dL_law_1948 : decode code 1948 = .ok (.iaload, 1) := by decide +kernel
theorem dL_law_1949 : decode code 1949 = .ok (.aload_n 0, 1) := by decide +kernel
theorem dL_law_1950 : decode code 1950 = .ok (.iload_n 3, 1) := by decide +kernel
theorem dL_law_1951 : decode code 1951 = .ok (.iconst 2, 1) := by decide +kernel
theorem dL_law_1952 : decode code 1952 = .ok (.iadd, 1) := by decide +kernel
theorem dL_law_1953 : decode code 1953 = .ok (.iaload, 1) := by decide +kernel
theorem dL_law_1954 : decode code 1954 = .ok (.aload_n 0, 1) := by decide +kernel
theorem dL_law_1955 : decode code 1955 = .ok (.iload_n 3, 1) := by decide +kernel
theorem dL_law_1956 : decode code 1956 = .ok (.iconst 3, 1) := by decide +kernel
theorem dL_law_1957 : decode code 1957 = .ok (.iadd, 1) := by decide +kernel
theorem dL_law_1958 : decode code 1958 = .ok (.iaload, 1) := by decide +kernel
theorem dL_law_1959 : decode code 1959 = .ok (.aload_n 0, 1) := by decide +kernel
theorem dL_law_1960 : decode code 1960 = .ok (.iload_n 3, 1) := by decide +kernel
theorem dL_law_1961 : decode code 1961 = .ok (.iconst 4, 1) := by decide +kernel
theorem dL_law_1962 : decode code 1962 = .ok (.iadd, 1) := by decide +kernel
theorem dL_law_1963 : decode code 1963 = .ok (.iaload, 1) := by decide +kernel
theorem dL_law_1964 : decode code 1964 = .ok (.aload_n 0, 1) := by decide +kernel
theorem dL_law_1965 : decode code 1965 = .ok (.iload_n 3, 1) := by decide +kernel
theorem dL_law_1966 : decode code 1966 = .ok (.iconst 5, 1) := by decide +kernel
theorem dL_law_1967 : decode code 1967 = .ok (.iadd, 1) := by decide +kernel
theorem dL_law_1968 : decode code 1968 = .ok (.iaload, 1) := by decide +kernel
theorem dL_law_1969 : decode code 1969 = .ok (.invokevirtual 273, 3) := by decide +kernel
theorem dL_law_1972 : decode code 1972 = .ok (.aload_n 2, 1) := by decide +kernel
theorem dL_law_1973 : decode code 1973 = .ok (.aload_n 0, 1) := by decide +kernel
theorem dL_law_1974 : decode code 1974 = .ok (.iload_n 3, 1) := by decide +kernel
theorem dL_law_1975 : decode code 1975 = .ok (.iconst 1, 1) := by decide +kernel
theorem dL_law_1976 : decode code 1976 = .ok (.iadd, 1) := by decide +kernel
theorem dL_law_1977 : decode code 1977 = .ok (.iaload, 1) := by decide +kernel
theorem dL_law_1978 : decode code 1978 = .ok (.aload_n 0, 1) := by decide +kernel
theorem dL_law_1979 : decode code 1979 = .ok (.iload_n 3, 1) := by decide +kernel
theorem dL_law_1980 : decode code 1980 = .ok (.iconst 2, 1) := by decide +kernel
theorem dL_law_1981 : decode code 1981 = .ok (.iadd, 1) := by decide +kernel
theorem dL_law_1982 : decode code 1982 = .ok (.iaload, 1) := by decide +kernel
theorem dL_law_1983 : decode code 1983 = .ok (.aload_n 0, 1) := by decide +kernel
theorem dL_law_1984 : decode code 1984 = .ok (.iload_n 3, 1) := by decide +kernel
theorem dL_law_1985 : decode code 1985 = .ok (.iconst 3, 1) := by decide +kernel
theorem dL_law_1986 : decode code 1986 = .ok (.iadd, 1) := by decide +kernel
theorem dL_law_1987 : decode code 1987 = .ok (.iaload, 1) := by decide +kernel
theorem dL_law_1988 : decode code 1988 = .ok (.aload_n 0, 1) := by decide +kernel
theorem dL_law_1989 : decode code 1989 = .ok (.iload_n 3, 1) := by decide +kernel
theorem dL_law_1990 : decode code 1990 = .ok (.iconst 4, 1) := by decide +kernel
theorem dL_law_1991 : decode code 1991 = .ok (.iadd, 1) := by decide +kernel
theorem dL_law_1992 : decode code 1992 = .ok (.iaload, 1) := by decide +kernel
theorem dL_law_1993 : decode code 1993 = .ok (.aload_n 0, 1) := by decide +kernel
theorem dL_law_1994 : decode code 1994 = .ok (.iload_n 3, 1) := by decide +kernel
theorem dL_law_1995 : decode code 1995 = .ok (.iconst 5, 1) := by decide +kernel
theorem dL_law_1996 : decode code 1996 = .ok (.iadd, 1) := by decide +kernel
theorem dL_law_1997 : decode code 1997 = .ok (.iaload, 1) := by decide +kernel
theorem dL_law_1998 : decode code 1998 = .ok (.invokevirtual 276, 3) := by decide +kernel
theorem dL_law_2001 : decode code 2001 = .ok (.if_icmp .eq 5, 3) := by decide +kernel
theorem dL_law_2006 : decode code 2006 = .ok (.iinc 3 6, 3) := by decide +kernel
theorem dL_law_2009 : decode code 2009 = .ok (.goto (-1991), 3) := by decide +kernel
theorem dL_law_2012 : decode code 2012 = .ok (.iconst 1, 1) := by decide +kernel
theorem dL_law_2013 : decode code 2013 = .ok (.ireturn, 1) := by decide +kernel
